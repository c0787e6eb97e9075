import java.io.IOException;
import java.lang.reflect.Field;
import java.lang.reflect.Method;
import java.lang.reflect.Modifier;
import java.nio.file.Files;
import java.nio.file.Path;
import java.util.Arrays;
import java.util.List;
import java.util.TreeSet;
import java.util.regex.Matcher;
import java.util.regex.Pattern;

/** What of the rules of the language can be seen in the program's text and in its compiled classes. */
public final class LanguageTests {
    private static final Path PROGRAM = Path.of("src/main/java/AlarmTower.java");

    private static final String[] FACE = {
        "public int AlarmTower.source(int)", "public int AlarmTower.rule(int,long,int,int,int)",
        "public int AlarmTower.hold(int,int,int)", "public int AlarmTower.silence(int,int,int,int,int)",
        "public int AlarmTower.mask(int)", "public int AlarmTower.waits(int,int,int,int)", "public int AlarmTower.hand()",
        "public int AlarmTower.shift(int,int,int,int)", "public int AlarmTower.swap(int,int,int,int)",
        "public int AlarmTower.value(int,double)", "public int AlarmTower.tear(int)", "public int AlarmTower.tick()",
        "public int AlarmTower.truth(int,int)", "public int AlarmTower.counts(int,int,int)",
        "public int AlarmTower.alarm(int,int)", "public int AlarmTower.letter(int,int)",
        "public int AlarmTower.holds(int,int)", "public int AlarmTower.why(int)", "public int AlarmTower.whyNot(int,int)",
        "public int AlarmTower.awake(int,int)", "public int AlarmTower.answer(int,int)", "public int AlarmTower.noise(int)",
        "public int AlarmTower.flap(int,int)", "public int AlarmTower.least(int,int)", "public int AlarmTower.count(int)",
        "public int AlarmTower.keep(int,int,int)", "public int AlarmTower.make(int,int,int)",
        "public long AlarmTower.element(int,int) throws java.lang.IllegalArgumentException,java.lang.IllegalStateException",
        "public int AlarmTower.copy(int,int,int,int,int)", "public int AlarmTower.weight(int)",
        "public int AlarmTower.toss(int)"};

    private static final String[] FORBIDDEN = {"->", "::", "\\bsynchronized\\b", "\\bassert\\b", "\\bfinally\\b", "\\bvolatile\\b",
        "\\bpackage\\b", "\\bgetMessage\\b", "\\bhashCode\\b", "\\btoString\\b", "\\bClass\\b", "\\bThread\\b", "\\bRandom\\b",
        "\\bNullPointerException\\b", "\\bArrayIndexOutOfBoundsException\\b", "\\bClassCastException\\b",
        "\\bNegativeArraySizeException\\b", "\\bArrayStoreException\\b", "\\bException\\b", "\\bThrowable\\b", "\\bError\\b",
        "Exact\\b", "\\bSystem\\.(?!arraycopy\\b)", "\\bArrays\\.(?!fill\\b|copyOf\\b|copyOfRange\\b)",
        "\\bMath\\.(?!min\\b|max\\b|abs\\b|floorMod\\b|floorDiv\\b)", "^import (?!java\\.util\\.(ArrayList|Arrays|List);)",
        "\" *\\+", "\\+ *\"", "[^\\x00-\\x7e]"};

    /** Of what a static field may be; there are no enums in the program. */
    private static final List<Class<?>> CONSTANTS = List.of(int.class, long.class, boolean.class, char.class, String.class,
        int[].class, long[].class, char[].class, byte[].class);

    private LanguageTests() {
    }

    public static void main(String[] args) throws IOException {
        text(Files.readAllLines(PROGRAM));
        face();
        classes();
        Expect.end();
    }

    private static void text(List<String> lines) {
        Expect.part("text");
        for (String forbidden : FORBIDDEN) {
            Pattern pattern = Pattern.compile(forbidden);
            for (int i = 0; i < lines.size(); i++) {
                Matcher found = pattern.matcher(lines.get(i));
                if (found.find()) {
                    Expect.fault("line " + (i + 1) + " holds " + forbidden);
                }
            }
        }
        lengths(lines);
        constructors(lines);
    }

    /** What a constructor makes is new; a call from there might be one that another class has overridden. */
    private static void constructors(List<String> lines) {
        Pattern head = Pattern.compile("^( {4}| {8})(public )?[A-Z]\\w*\\(.*\\) \\{$");
        Pattern call = Pattern.compile("(?<!new )\\b\\w+\\(|\\bthrow\\b");
        int found = 0;
        for (int i = 0; i < lines.size(); i++) {
            Matcher begins = head.matcher(lines.get(i));
            if (begins.matches()) {
                found++;
                for (int k = i + 1; k < lines.size() && !lines.get(k).equals(begins.group(1) + "}"); k++) {
                    Expect.due("a call in the constructor at line " + (k + 1), call.matcher(lines.get(k)).find() ? 1 : 0, 0);
                }
            }
        }
        Expect.due("constructors were found", found > 1 ? 1 : 0, 1);
    }

    /** A method goes from a line that ends in a brace to the brace that stands as far in. */
    private static void lengths(List<String> lines) {
        Pattern head = Pattern.compile("^( {4}| {8})[^ /*].*\\) (throws .*)?\\{$");
        for (int i = 0; i < lines.size(); i++) {
            Matcher found = head.matcher(lines.get(i));
            if (found.matches()) {
                int end = lines.subList(i, lines.size()).indexOf(found.group(1) + "}");
                Expect.due("a short method at line " + (i + 1), end >= 0 && end <= 60 ? 1 : 0, 1);
            }
        }
    }

    private static void face() {
        Expect.part("face");
        TreeSet<String> due = new TreeSet<>(Arrays.asList(FACE));
        TreeSet<String> names = new TreeSet<>();
        for (Method method : AlarmTower.class.getDeclaredMethods()) {
            if (Modifier.isPublic(method.getModifiers())) {
                names.add(method.getName());
                if (!due.remove(method.toString())) {
                    Expect.fault("not of the face: " + method);
                }
            }
        }
        for (String missing : due) {
            Expect.fault("missing: " + missing);
        }
        for (Method method : AlarmTower.class.getDeclaredMethods()) {
            boolean own = !Modifier.isPublic(method.getModifiers()) && !method.isSynthetic();
            if (own && (!Modifier.isPrivate(method.getModifiers()) || names.contains(method.getName()))) {
                Expect.fault("no member like it: " + method);
            }
        }
        Expect.due("constructors", AlarmTower.class.getDeclaredConstructors().length, 1);
        Expect.due("final", Modifier.isFinal(AlarmTower.class.getModifiers()) ? 1 : 0, 1);
        for (Field field : AlarmTower.class.getDeclaredFields()) {
            Expect.due("private: " + field, Modifier.isPrivate(field.getModifiers()) ? 1 : 0, 1);
        }
    }

    private static void classes() {
        Expect.part("classes");
        Class<?>[] inside = AlarmTower.class.getDeclaredClasses();
        Expect.due("at most twelve classes", inside.length + 1 <= 12 ? 1 : 0, 1);
        oneClass(AlarmTower.class);
        for (Class<?> each : inside) {
            int modifiers = each.getModifiers();
            Expect.due("static and not public: " + each,
                Modifier.isStatic(modifiers) && !Modifier.isPublic(modifiers) && !Modifier.isProtected(modifiers) ? 1 : 0, 1);
            Expect.due("no classes inside " + each, each.getDeclaredClasses().length, 0);
            oneClass(each);
        }
    }

    private static void oneClass(Class<?> each) {
        int fields = 0;
        for (Field field : each.getDeclaredFields()) {
            boolean isStatic = Modifier.isStatic(field.getModifiers());
            fields += isStatic ? 0 : 1;
            if (isStatic && !Modifier.isFinal(field.getModifiers())) {
                Expect.fault("static state: " + field);
            }
            if (isStatic && !CONSTANTS.contains(field.getType())) {
                Expect.fault("no constant of such a kind: " + field);
            }
        }
        Expect.due("fields of " + each + " at most twenty", fields <= 20 ? 1 : 0, 1);
        for (Method method : each.getDeclaredMethods()) {
            Expect.due("parameters of " + method + " at most seven", method.getParameterCount() <= 7 ? 1 : 0, 1);
        }
    }
}
