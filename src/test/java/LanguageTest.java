import java.io.IOException;
import java.lang.reflect.Constructor;
import java.lang.reflect.Field;
import java.lang.reflect.Method;
import java.lang.reflect.Modifier;
import java.nio.file.Files;
import java.nio.file.Path;
import java.util.ArrayList;
import java.util.Arrays;
import java.util.LinkedHashMap;
import java.util.List;
import java.util.Map;
import java.util.Set;
import java.util.TreeSet;
import java.util.regex.Matcher;
import java.util.regex.Pattern;

/**
 * Rules of LANGUAGE.md on DogJudge.java, as far as they can be seen from its text and from the compiled
 * class, and the public face as DOC.md writes it.
 */
public final class LanguageTest {
    private static final Path PROGRAM = Path.of("src/main/java/DogJudge.java");
    private static final Path DOC = Path.of("../shared/DOC.md");
    private static final Pattern METHOD = Pattern.compile("^( {4}| {8})((?:(?:public|private|static) )*)"
        + "(?:[A-Za-z]+(?:\\[\\])* )?([A-Za-z]+)\\(([^)]*)\\) \\{$");
    private static final Pattern CALL = Pattern.compile("([A-Za-z]+)\\(");
    private static final Set<String> LIBRARY = Set.of("Math.max", "Math.min", "Math.abs", "Math.floorDiv", "Math.floorMod",
        "Integer.bitCount", "Integer.MIN_VALUE", "Long.MIN_VALUE", "System.arraycopy", "Arrays.fill", "Arrays.copyOf");
    private static final int LINES_MOST = 60, PARAMETERS_MOST = 7, DEEP_MOST = 8, CLASSES_MOST = 12, FIELDS_MOST = 20;

    private static int wrong = 0;

    private final String text;
    /** By its name, what each method's lines say, its head ahead. */
    private final Map<String, List<String>> methods = new LinkedHashMap<>();
    private final List<String> headsTwice = new ArrayList<>();

    private LanguageTest(String source) {
        text = withoutComments(source);
        readMethods();
    }

    public static void main(String[] args) throws IOException {
        LanguageTest test = new LanguageTest(Files.readString(PROGRAM));
        test.isTheFaceOfTheDocument();
        test.hasNothingElseThatIsSeen();
        test.hasClassesInsideThatAreStatic();
        test.usesNoOtherLibrary();
        test.hasNoStaticState();
        test.saysNoForbiddenWord();
        test.callsItselfInPrivateStaticMethodsAlone();
        test.keepsItsSizes();
        test.callsNoDeeper();
        System.out.println(wrong == 0 ? "the rules of the language hold" : wrong + " breaches of the language");
        if (wrong != 0) System.exit(1);
    }

    private static void holds(int rule, String words, boolean itHolds, Object where) {
        if (itHolds) return;
        wrong++;
        System.out.println("rule " + rule + ", \"" + words + "\": " + where);
    }

    // ---- the text

    private static String withoutComments(String source) {
        return source.replaceAll("(?s)/\\*.*?\\*/", "").replaceAll("//[^\n]*", "");
    }

    private void readMethods() {
        String[] lines = text.split("\n");
        for (int i = 0; i < lines.length; i++) {
            Matcher head = METHOD.matcher(lines[i]);
            if (!head.matches() || head.group(3).equals("switch")) continue;
            List<String> body = new ArrayList<>();
            String end = head.group(1) + "}";
            for (; i < lines.length && !lines[i].equals(end); i++) body.add(lines[i]);
            if (methods.put(head.group(3), body) != null) headsTwice.add(head.group(3));
        }
    }

    private Set<String> calledBy(String name) {
        Set<String> called = new TreeSet<>();
        List<String> body = methods.get(name);
        Matcher m = CALL.matcher(String.join("\n", body.subList(1, body.size())));
        while (m.find()) if (methods.containsKey(m.group(1))) called.add(m.group(1));
        return called;
    }

    // ---- rule 1

    private void isTheFaceOfTheDocument() throws IOException {
        String doc = Files.readString(DOC);
        String face = doc.substring(doc.indexOf("```java"), doc.indexOf("## Terms"));
        Set<String> due = new TreeSet<>();
        Matcher m = Pattern.compile("public (int|long) ([a-z]+)\\(([^)]*)\\);").matcher(face);
        while (m.find()) due.add(m.group(1) + " " + m.group(2) + " " + (m.group(3).isEmpty() ? 0 : m.group(3).split(",").length));
        Set<String> got = new TreeSet<>();
        for (Method one : DogJudge.class.getDeclaredMethods()) {
            if (Modifier.isPrivate(one.getModifiers())) continue;
            boolean plain = one.getModifiers() == Modifier.PUBLIC && Arrays.stream(one.getParameterTypes()).allMatch(t -> t == int.class);
            got.add(one.getReturnType() + " " + one.getName() + " " + one.getParameterCount() + (plain ? "" : " otherwise"));
        }
        holds(1, "with the public constructor, methods and constants of the document", due.equals(got), got);
        holds(1, "one public class", DogJudge.class.getModifiers() == (Modifier.PUBLIC | Modifier.FINAL), DogJudge.class);
        Constructor<?>[] made = DogJudge.class.getDeclaredConstructors();
        holds(1, "the public constructor", made.length == 1 && made[0].getModifiers() == Modifier.PUBLIC
            && made[0].getParameterCount() == 0, Arrays.toString(made));
        holds(1, "constants of the document", DogJudge.NONE == -1 && DogJudge.BAD == -2 && DogJudge.NOT == -3
            && DogJudge.FULL == -4, "NONE, BAD, NOT, FULL");
    }

    private void hasNothingElseThatIsSeen() {
        Set<String> constants = Set.of("NONE", "BAD", "NOT", "FULL");
        for (Field field : DogJudge.class.getDeclaredFields()) {
            boolean isPrivate = Modifier.isPrivate(field.getModifiers());
            holds(1, "no other public, protected or package-visible member", isPrivate != constants.contains(field.getName()), field);
            if (!isPrivate) holds(1, "constants of the document", field.getType() == int.class && field.getModifiers()
                == (Modifier.PUBLIC | Modifier.STATIC | Modifier.FINAL), field);
        }
        Set<String> open = new TreeSet<>();
        for (Method one : DogJudge.class.getMethods()) {
            if (one.getDeclaringClass() == DogJudge.class) open.add(one.getName());
        }
        for (Class<?> inside : DogJudge.class.getDeclaredClasses()) {
            for (Method one : inside.getDeclaredMethods()) {
                holds(1, "No private method bears the name of a public one", !open.contains(one.getName()), one);
            }
        }
    }

    // ---- rules 2 and 4 to 6

    private void hasClassesInsideThatAreStatic() {
        for (Class<?> inside : DogJudge.class.getDeclaredClasses()) {
            holds(2, "No inner class that isn't static", Modifier.isStatic(inside.getModifiers()), inside);
            holds(1, "which are private or package-visible", (inside.getModifiers() & (Modifier.PUBLIC | Modifier.PROTECTED)) == 0, inside);
            holds(2, "no local or anonymous class", inside.getDeclaredClasses().length == 0, inside);
        }
        holds(2, "no local or anonymous class, no lambda, no method reference", !text.contains("->") && !text.contains("::"), "-> or ::");
        holds(2, "no local or anonymous class", !Pattern.compile("new \\w+\\([^)]*\\) *\\{").matcher(text).find(), "new ...() {");
    }

    private void usesNoOtherLibrary() {
        holds(4, "only what stands here", !Pattern.compile("\\b(import|package)\\b").matcher(text).find(), "import or package");
        Matcher m = Pattern.compile("\\b(Math|System|Integer|Long|Arrays|String|Character|Byte|Short|Object|Thread|Runtime|java|javax)\\b(\\.\\w+)?")
            .matcher(text);
        while (m.find()) holds(4, "only what stands here", LIBRARY.contains(m.group()), m.group());
    }

    private void hasNoStaticState() {
        List<Class<?>> all = new ArrayList<>(Arrays.asList(DogJudge.class.getDeclaredClasses()));
        all.add(DogJudge.class);
        for (Class<?> one : all) {
            for (Field field : one.getDeclaredFields()) {
                if (!Modifier.isStatic(field.getModifiers())) continue;
                holds(5, "Static fields are final", Modifier.isFinal(field.getModifiers()), field);
                holds(5, "constants of int, long, boolean, char or String", field.getType() == int.class
                    || field.getType() == int[].class, field);
                if (field.getType() != int[].class) continue;
                Pattern changed = Pattern.compile("\\b" + field.getName() + "\\[[^\\]]*\\] *([-+*/|&^]|<<|>>>?)?=[^=]");
                holds(5, "never changed", !changed.matcher(text).find(), field);
            }
        }
        holds(5, "no static initialiser block", !Pattern.compile("\\bstatic *\\{").matcher(text).find(), "static {");
    }

    private void saysNoForbiddenWord() {
        for (String word : new String[] {"throw", "throws", "try", "catch", "finally", "synchronized", "assert", "volatile",
            "transient", "native", "instanceof", "var", "equals", "hashCode", "toString"}) {
            holds(6, "No throw, try, catch, synchronized, assert", !Pattern.compile("\\b" + word + "\\b").matcher(text).find(), word);
        }
        holds(10, "joining texts by StringBuilder (not by +)", text.indexOf('"') < 0, "a text");
    }

    // ---- rules 8 and 11

    private void callsItselfInPrivateStaticMethodsAlone() {
        for (String name : methods.keySet()) {
            if (!calledBy(name).contains(name)) continue;
            String head = methods.get(name).get(0).trim();
            holds(8, "a private static method that calls itself", head.startsWith("private static "), head);
        }
    }

    private void keepsItsSizes() {
        for (Map.Entry<String, List<String>> one : methods.entrySet()) {
            String head = one.getValue().get(0);
            holds(11, "some sixty lines", one.getValue().size() < LINES_MOST, head);
            holds(11, "at most seven parameters", head.split(",").length <= PARAMETERS_MOST, head);
        }
        List<Class<?>> all = new ArrayList<>(Arrays.asList(DogJudge.class.getDeclaredClasses()));
        all.add(DogJudge.class);
        holds(11, "at most some twelve classes", all.size() <= CLASSES_MOST, all.size());
        for (Class<?> one : all) {
            long fields = Arrays.stream(one.getDeclaredFields()).filter(f -> !Modifier.isStatic(f.getModifiers())).count();
            holds(11, "some twenty fields beside its constants", fields <= FIELDS_MOST, one);
        }
    }

    private void callsNoDeeper() {
        List<Class<?>> all = new ArrayList<>(Arrays.asList(DogJudge.class.getDeclaredClasses()));
        all.add(DogJudge.class);
        for (Class<?> one : all) {
            for (Method method : one.getDeclaredMethods()) {
                holds(11, "(each method is read from the text)", methods.containsKey(method.getName()), method);
            }
        }
        holds(11, "(each method's name once, so that the chains below can be read)", headsTwice.isEmpty(), headsTwice);
        for (String name : methods.keySet()) {
            List<String> chain = deepest(name, new ArrayList<>());
            holds(11, "calls that are no recursion go at most eight deep", chain.size() <= DEEP_MOST, chain);
        }
    }

    /** The longest chain of calls from a method on in which none stands twice. */
    private List<String> deepest(String name, List<String> ahead) {
        List<String> chain = new ArrayList<>(ahead);
        chain.add(name);
        List<String> longest = chain;
        for (String next : calledBy(name)) {
            if (chain.contains(next)) continue;
            List<String> longer = deepest(next, chain);
            if (longer.size() > longest.size()) longest = longer;
        }
        return longest;
    }
}
