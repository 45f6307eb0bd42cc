/** Promises 1 to 6: each sentence that names an edge of a new object, of heirs and of their fault. */
public final class HeirsSentencesTest extends Sentences {
    public static void main(String[] args) {
        newObject();
        newWays();
        type();
        wipe();
        undo();
        fault();
        faultsInShape();
        good();
        end();
    }

    private static void newObject() {
        sentence(1, "public static final int NONE = -1, BAD = -2, NOT = -3, FULL = -4;", () -> {
            due(-1, DogJudge.NONE);
            due(-2, DogJudge.BAD);
            due(-3, DogJudge.NOT);
            due(-4, DogJudge.FULL);
        });
        sentence(1, "No HEIRS", () -> {
            DogJudge x = new DogJudge();
            due(0, x.count(0));
            due(0, x.count(1));
            due(NONE, x.fault());
            due(BAD, x.good(0, 0));
            due(NONE, x.found(0, 0));
            due(NOT, x.undo());
        });
        sentence(1, "all SHEETS are LOST", () -> {
            DogJudge x = new DogJudge();
            for (int s = 0; s < 4; s++) {
                due(NULL, x.lose(s));
                due(NULL, x.read(s));
                due(NULL, x.write(0, s));
                due(NULL, x.put(s, s % 3, 0, 0));
                due(NULL, x.copy(s, 0, s, 0, 0));
            }
        });
        sentence(1, "`DogJudge()`: No HEIRS; all SHEETS are LOST.", () -> {
            // An object that is made behind one in use is as new as the first.
            DogJudge used = set(come(heirs("123"), 0, 0, COAT), HABIT, 9, HUNGER, 9, FADES, 9, SLEEPS, 2, NIGHT, 9);
            items(used, 0, 0, 7).seen(0, 0);
            used.taste(0, COAT, 9);
            used.get(3, 0, 0);
            due(8501129970606130731L, new DogJudge().digest());
            due(NULL, new DogJudge().lose(0));
            due(1, new DogJudge().taste(0, COAT, 0));
            due(2, new DogJudge().set(NIGHT, 0));
            due(0, new DogJudge().count(8));
        });
        sentence(1, "An object is used for at most 512 calls after it has been made", () -> {
            DogJudge x = new DogJudge();
            for (int i = 0; i < 23; i++) due(i + 1, x.type(i % 4 == 3 ? ';' : '1'));
            for (int i = 0; i < 24; i++) due(i + 1, x.visit(i, i % 6, COAT));
            for (int i = 0; i < 8; i++) due(i + 1, x.seen(i, 0));
            for (int i = 0; i < 228; i++) {
                due(23, x.back());
                due(24, x.visit(23, 5, COAT));
            }
            due(0, x.found(0, 0));
        });
    }

    private static void newWays() {
        sentence(1, "TASTE of a DOG for a THING (0 to 9; 1 at first)", () -> {
            for (int i = 0; i < 6; i++) due(1, new DogJudge().taste(i / 3, i % 3, 5));
        });
        sentence(1, "HABIT (0 to 9; 1 at first)", () -> {
            due(1, new DogJudge().set(HABIT, 5));
            due(1, new DogJudge().count(5));
            due(3, come(heirs("020"), 0, 0, COAT, 1, 0, COAT).liking(0, 1, 0));
        });
        sentence(1, "HUNGER (0 to 9; 3 at first)", () -> {
            due(3, new DogJudge().set(HUNGER, 5));
            due(3, new DogJudge().count(6));
            due(2, come(heirs("200;000"), 0, 1, SAUSAGE, 3, 0, SAUSAGE).liking(0, 3, 0));
            due(4, come(heirs("200;000"), 0, 1, SAUSAGE, 4, 0, SAUSAGE).liking(0, 4, 0));
        });
        sentence(1, "FADES (0 to 9; 0 at first)", () -> {
            due(0, new DogJudge().set(FADES, 5));
            due(1, come(heirs("010"), 0, 0, COAT).liking(0, 29, 0));
        });
        sentence(1, "SLEEPS (DAYS as bits 0 to 29; none at first)", () -> {
            due(0, new DogJudge().set(SLEEPS, 5));
            due(0, new DogJudge().count(7));
            for (int day = 0; day < 30; day++) due(0, come(heirs("010"), day, 0, COAT).found(0, day));
        });
        sentence(1, "NIGHT (0 to 9; 2 at first)", () -> due(2, new DogJudge().set(NIGHT, 5)));
        sentence(1, "VISITS, 24 at most (0 on)", () -> {
            due(0, new DogJudge().count(2));
            due(0, new DogJudge().count(3));
            due(NOT, new DogJudge().back());
        });
        sentence(1, "SEEN, 8 at most", () -> {
            due(0, new DogJudge().count(4));
            due(0, new DogJudge().forget());
        });
        sentence(1, "8 the number of the latest FINDING (0 before any)", () -> due(0, new DogJudge().count(8)));
    }

    private static void type() {
        sentence(2, "A byte (0 to 255) comes behind HEIRS: how many.", () -> {
            DogJudge x = new DogJudge();
            due(BAD, x.type(-1));
            due(BAD, x.type(256));
            due(BAD, x.type(LEAST));
            due(BAD, x.type(MOST));
            // What would be a figure by its lowest eight bits is none.
            due(BAD, x.type('1' + 256));
            due(BAD, x.type('1' - 256));
            due(0, x.count(1));
            due(1, x.type(0));
            due(2, x.type(255));
            due(3, x.type('1'));
        });
        sentence(2, "HEIRS are a text of up to 23 bytes", () -> {
            DogJudge x = new DogJudge();
            for (int i = 1; i <= 23; i++) due(i, x.type('a'));
            due(FULL, x.type('a'));
            due(FULL, x.type(0));
            due(FULL, x.type(255));
            due(23, x.count(1));
            due(22, x.undo());
            due(23, x.type('a'));
            due(FULL, x.type('a'));
        });
        sentence(2, "6 at most (0 on), with ; between them", () -> {
            DogJudge x = heirs(SIX_HEIRS);
            due(6, x.count(0));
            due(23, x.count(1));
            due(FULL, x.type(';'));
            due(6, x.count(0));
            due(NONE, x.fault());
        });
        sentence(2, "BAD; FULL.", () -> {
            DogJudge x = new DogJudge();
            due(BAD, x.type(300));
            for (int i = 0; i < 23; i++) x.type(';');
            due(BAD, x.type(300));
            due(FULL, x.type(30));
            // With a fault it is full by 23 bytes, too, and wiped it is not.
            due(0, x.fault());
            x.wipe();
            due(1, x.type(30));
        });
        sentence(2, "Refusals, the first that fits, in the order told at each act", () -> {
            DogJudge x = heirs(SIX_HEIRS);
            due(BAD, x.type(-1));
            due(BAD, x.type(256));
            due(FULL, x.type(48));
        });
    }

    private static void wipe() {
        sentence(3, "HEIRS are empty: how many bytes they had.", () -> {
            DogJudge x = new DogJudge();
            due(0, x.wipe());
            for (char c : SIX_HEIRS.toCharArray()) x.type(c);
            due(23, x.wipe());
            due(0, x.count(0));
            due(0, x.count(1));
            due(NONE, x.fault());
            due(0, x.wipe());
            due(NOT, x.undo());
            due(1, x.type('7'));
            due(1, x.wipe());
        });
        sentence(3, "(an empty text is well;", () -> {
            DogJudge x = heirs("x");
            due(0, x.fault());
            x.wipe();
            due(NONE, x.fault());
            x.type('7');
            x.type('7');
            x.type('7');
            due(1, x.count(0));
        });
    }

    private static void undo() {
        sentence(4, "The last byte is undone: how many are left.", () -> {
            DogJudge x = heirs(SIX_HEIRS);
            due(22, x.undo());
            due(0, x.count(0));
            due(22, x.fault());
            due(21, x.undo());
            due(20, x.undo());
            due(20, x.fault());
            due(19, x.undo());
            due(5, x.count(0));
            due(5, x.good(4, STICK));
            for (int left = 18; left >= 0; left--) due(left, x.undo());
            due(NONE, x.fault());
        });
        sentence(4, "NOT: there is none.", () -> {
            DogJudge x = new DogJudge();
            due(NOT, x.undo());
            due(NOT, x.undo());
            due(0, x.count(1));
            due(1, x.type('1'));
            due(0, x.undo());
            due(NOT, x.undo());
            for (char c : "123".toCharArray()) x.type(c);
            x.wipe();
            due(NOT, x.undo());
            due(NONE, x.fault());
        });
    }

    private static void fault() {
        sentence(5, "The FAULT is the place of the first byte with which it cannot go on", () -> {
            due(0, faultOf("x"));
            due(0, faultOf("xxx;xxx"));
            due(1, faultOf("1x3;45x"));
            due(2, faultOf("12;345"));
            due(22, faultOf("111;222;333;444;555;66x"));
            due(19, faultOf("111;222;333;444;555.66x"));
            // It stays the first, whatever comes behind, and goes with that byte.
            DogJudge x = heirs("12x;456");
            due(2, x.fault());
            for (int i = 0; i < 4; i++) x.undo();
            due(2, x.fault());
            x.undo();
            due(2, x.fault());
            x.type('3');
            due(NONE, x.fault());
        });
        sentence(5, "(an empty text is well;", () -> due(NONE, faultOf("")));
        sentence(5, "of one that is not ended, its end)", () -> {
            due(1, faultOf("1"));
            due(2, faultOf("12"));
            due(4, faultOf("123;"));
            due(5, faultOf("123;4"));
            due(6, faultOf("123;45"));
            due(20, faultOf("111;222;333;444;555;"));
            due(22, faultOf("111;222;333;444;555;66"));
        });
        sentence(5, "here also of the first byte of a seventh", () -> {
            // It would be the 25th byte, and the text is full ahead of it.
            DogJudge x = heirs(SIX_HEIRS + ";7");
            due(NONE, x.fault());
            due(6, x.count(0));
            due(23, x.count(1));
        });
        sentence(5, "With a FAULT there are none.", () -> {
            DogJudge x = come(heirs("123;456;"), 0, 0, COAT, 0, 1, COAT);
            due(0, x.count(0));
            due(0, x.count(3));
            due(2, x.count(2));
            x.type('7');
            due(0, x.count(0));
            x.type('8');
            due(0, x.count(0));
            x.type('9');
            due(3, x.count(0));
            due(2, x.count(3));
            x.type('0');
            due(0, x.count(0));
        });
        sentence(5, "The FAULT; NONE.", () -> {
            due(NONE, faultOf("123"));
            due(NONE, faultOf("123;456"));
            due(NONE, faultOf(SIX_HEIRS));
        });
    }

    private static void faultsInShape() {
        sentence(5, "with ; between them", () -> {
            due(0, faultOf(";"));
            due(0, faultOf(";123"));
            due(3, faultOf("1234"));
            due(3, faultOf("123456"));
            due(3, faultOf("123,456"));
            due(3, faultOf("123:456"));
            due(3, faultOf("123\u00bb456"));
            due(4, faultOf("123;;456"));
            due(7, faultOf("123;4567"));
        });
        sentence(5, "three figures (0 to 9)", () -> {
            due(NONE, faultOf("000;999"));
            for (int place = 0; place < 3; place++) {
                for (char c : new char[] {'0' - 1, '9' + 1, 0, ' ', '0' + 128, 255}) {
                    StringBuilder text = new StringBuilder("123");
                    text.setCharAt(place, c);
                    due(place, faultOf(text.toString()));
                }
            }
        });
    }

    private static void good() {
        sentence(6, "three figures (0 to 9), how GOOD the sausage is that it brings, the coat, the stick", () -> {
            DogJudge x = heirs("009;090;900");
            for (int heir = 0; heir < 3; heir++) {
                for (int thing = 0; thing < 3; thing++) due(heir + thing == 2 ? 9 : 0, x.good(heir, thing));
            }
        });
        sentence(6, "6 at most (0 on)", () -> {
            DogJudge x = heirs(SIX_HEIRS);
            for (int heir = 0; heir < 6; heir++) due(heir + 1, x.good(heir, STICK));
            due(BAD, x.good(-1, 0));
            due(BAD, x.good(6, 0));
            due(BAD, x.good(LEAST, 0));
            due(BAD, x.good(MOST, 0));
        });
        sentence(6, "(THINGS 0 to 2)", () -> {
            DogJudge x = heirs("123;456");
            due(1, x.good(0, 0));
            due(3, x.good(0, 2));
            due(BAD, x.good(0, 3));
            due(BAD, x.good(0, -1));
            due(BAD, x.good(1, -1));
            due(BAD, x.good(1, LEAST));
            due(BAD, x.good(1, MOST));
        });
        sentence(6, "How GOOD a THING of an HEIR is. BAD.", () -> {
            DogJudge x = heirs("105");
            due(1, x.good(0, SAUSAGE));
            due(0, x.good(0, COAT));
            due(5, x.good(0, STICK));
            due(BAD, x.good(-1, -1));
            due(BAD, x.good(1, 3));
            due(BAD, x.good(3, 0));
        });
        sentence(6, "BAD -2 (a number not as told, no such thing)", () -> {
            due(BAD, new DogJudge().good(0, 0));
            due(BAD, heirs("123").good(1, 0));
            due(BAD, heirs("123;456;789;012;345").good(5, 0));
        });
        sentence(6, "With a FAULT there are none.", () -> {
            DogJudge x = heirs("123;45");
            due(BAD, x.good(0, 0));
            x.type('6');
            due(1, x.good(0, 0));
            due(6, x.good(1, STICK));
            x.undo();
            x.undo();
            due(BAD, x.good(0, 0));
        });
    }
}
