import java.lang.reflect.Method;
import java.lang.reflect.Modifier;
import java.util.Arrays;
import java.util.Comparator;

/**
 * Every call of the document, in several states, with numbers at and about every bound that the
 * document names and at the ends of the ints, drawn by a fixed row of lots: DogJudge and PlainJudge
 * answer alike, and no call throws.
 */
public final class BoundsRunsTest {
    private static final int[] BOUNDS = {Integer.MIN_VALUE, Integer.MIN_VALUE + 1, -65536, -32769, -129, -128, -15, -11, -5, -4,
        -3, -2, -1, 0, 1, 2, 3, 4, 5, 6, 7, 8, 9, 10, 11, 15, 16, 17, 22, 23, 24, 25, 28, 29, 30, 31, 32, 47, 48, 49, 57, 58,
        59, 127, 128, 255, 256, 512, 513, 999, 1000, 32767, 32768, 65535, 65536, 1 << 29, (1 << 30) - 1, 1 << 30,
        Integer.MAX_VALUE - 1, Integer.MAX_VALUE};
    private static final String[] TEXTS = {"", "123", "305;050;111", "111;222;333;444;555;666", "12x;456", "123;456;"};
    private static final int CALLS_AN_OBJECT = 300;

    private final Lots lots;
    private DogJudge judge;
    private PlainJudge plain;
    private int wrong = 0;
    private int calls = 0;

    private BoundsRunsTest(int row) {
        lots = new Lots(row);
    }

    public static void main(String[] args) throws ReflectiveOperationException {
        BoundsRunsTest test = new BoundsRunsTest(4711);
        Method[] methods = DogJudge.class.getDeclaredMethods();
        Arrays.sort(methods, Comparator.comparing(Method::getName));
        for (Method method : methods) {
            if (Modifier.isPublic(method.getModifiers())) test.tryAll(method);
        }
        System.out.println(test.calls + " calls at bounds, " + test.wrong + " answers are not as due");
        if (test.wrong != 0) System.exit(1);
    }

    private void tryAll(Method method) throws ReflectiveOperationException {
        Method like = PlainJudge.class.getDeclaredMethod(method.getName(), method.getParameterTypes());
        int numbers = method.getParameterCount();
        for (int state = 0; state < TEXTS.length; state++) {
            int draws = numbers == 0 ? 3 : numbers == 1 ? BOUNDS.length : 200;
            for (int k = 0; k < draws; k++) {
                if (k % CALLS_AN_OBJECT == 0) begin(state);
                Object[] drawn = new Object[numbers];
                for (int i = 0; i < numbers; i++) drawn[i] = numbers == 1 ? BOUNDS[k] : draw();
                call(method, like, drawn);
            }
            // The plain digest takes long, so it is compared in some states alone.
            if (state % 3 == 2) call(DogJudge.class.getMethod("digest"), PlainJudge.class.getDeclaredMethod("digest"));
            for (int what = 0; what <= 8; what++) {
                call(DogJudge.class.getMethod("count", int.class), PlainJudge.class.getDeclaredMethod("count", int.class), what);
            }
        }
    }

    /** Half of the numbers are small, so that often only one of them is at a bound. */
    private int draw() {
        return lots.upTo(1) == 0 ? lots.upTo(2) : BOUNDS[lots.upTo(BOUNDS.length - 1)];
    }

    private void call(Method method, Method like, Object... numbers) throws ReflectiveOperationException {
        calls++;
        long got = ((Number) method.invoke(judge, numbers)).longValue();
        long want = ((Number) like.invoke(plain, numbers)).longValue();
        if (got == want) return;
        wrong++;
        System.out.println(method.getName() + Arrays.toString(numbers) + " answered " + got + ", due is " + want);
    }

    private void begin(int state) {
        judge = new DogJudge();
        plain = new PlainJudge();
        for (char c : TEXTS[state].toCharArray()) {
            judge.type(c);
            plain.type(c);
        }
        // Of the six states one has nothing told, and one all that there is room for.
        int visits = state == 0 ? 0 : state == 3 ? 24 : 22;
        for (int i = 0; i < visits; i++) visit(lots.upTo(i % 3 == 0 ? 29 : 9), lots.upTo(5), lots.upTo(2));
        int seen = state == 0 ? 0 : state == 3 ? 8 : 1;
        for (int i = 0; i < seen; i++) {
            int day = lots.upTo(9);
            judge.seen(day, plain.found(0, day));
            plain.seen(day, plain.found(0, day));
        }
        for (int s = 0; s < 3 && state > 0; s++) {
            int items = new int[] {0, 48, 5}[(s + state) % 3];
            judge.sheet(s, (s + state) % 3, items);
            plain.sheet(s, (s + state) % 3, items);
        }
    }

    private void visit(int day, int heir, int thing) {
        judge.visit(day, heir, thing);
        plain.visit(day, heir, thing);
    }
}
