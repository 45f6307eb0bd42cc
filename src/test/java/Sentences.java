/** What the tests share that put one sentence of the document after the other on trial. */
abstract class Sentences {
    static final int NONE = -1, BAD = -2, NOT = -3, FULL = -4;
    static final int NULL = -11, INDEX = -12, CAST = -13, STORE = -14, SIZE = -15;
    static final int SAUSAGE = 0, COAT = 1, STICK = 2;
    static final int HABIT = 0, HUNGER = 1, FADES = 2, SLEEPS = 3, NIGHT = 4;
    static final int LEAST = Integer.MIN_VALUE, MOST = Integer.MAX_VALUE;
    static final int ALL_DAYS = (1 << 30) - 1;
    static final String SIX_HEIRS = "111;222;333;444;555;666";

    private static int sentences = 0;
    private static int broken = 0;
    private static String onTrial = "";
    private static boolean holds = true;

    /** Puts on trial what DOC.md says, word by word, of a promise. */
    static void sentence(int promise, String words, Runnable trial) {
        onTrial = "promise " + promise + ", \"" + words + "\"";
        holds = true;
        trial.run();
        sentences++;
        if (!holds) broken++;
    }

    static void due(long want, long got) {
        if (want == got) return;
        holds = false;
        StackTraceElement[] trace = new Throwable().getStackTrace();
        int line = 0;
        for (StackTraceElement at : trace) {
            if (!at.getClassName().equals("Sentences")) {
                line = at.getLineNumber();
                break;
            }
        }
        System.out.println(onTrial + " (line " + line + "): " + got + ", due is " + want);
    }

    static void end() {
        System.out.println(sentences + " sentences, " + broken + " broken");
        if (broken != 0) System.exit(1);
    }

    // ---- what is tried

    static DogJudge heirs(String text) {
        DogJudge x = new DogJudge();
        for (char c : text.toCharArray()) x.type(c);
        return x;
    }

    /** Visits more, three numbers for each: the day, the heir, the thing. */
    static DogJudge come(DogJudge x, int... daysHeirsThings) {
        for (int i = 0; i < daysHeirsThings.length; i += 3) {
            x.visit(daysHeirsThings[i], daysHeirsThings[i + 1], daysHeirsThings[i + 2]);
        }
        return x;
    }

    static DogJudge set(DogJudge x, int... whatsValues) {
        for (int i = 0; i < whatsValues.length; i += 2) x.set(whatsValues[i], whatsValues[i + 1]);
        return x;
    }

    static DogJudge items(DogJudge x, int s, int form, int... items) {
        x.sheet(s, form, items.length);
        for (int i = 0; i < items.length; i++) x.put(s, form, i, items[i]);
        return x;
    }

    /** As many visits as there may be, all of the last day. */
    static DogJudge fullOfVisits(DogJudge x) {
        for (int i = x.count(2); i < 24; i++) x.visit(29, 0, COAT);
        return x;
    }

    static int faultOf(String text) {
        return heirs(text).fault();
    }
}
