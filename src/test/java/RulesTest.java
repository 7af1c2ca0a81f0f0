import java.lang.reflect.Constructor;
import java.lang.reflect.Field;
import java.lang.reflect.Method;
import java.lang.reflect.Modifier;
import java.nio.file.Files;
import java.nio.file.Path;
import java.util.Set;
import java.util.TreeSet;
import java.util.regex.Matcher;
import java.util.regex.Pattern;

/** The rules of LANGUAGE.md that a program can look after. */
public final class RulesTest {
    private static final String[] FACE = {
        "int letter(int)", "int blank()", "int fault()", "int plate()", "int ring(int,int)",
        "int asked(int,int)", "int as(int)", "int next()", "int ask(int,int)", "int serve()", "int read(int)",
        "int pass(int)", "int choose(int)", "int skew(int,int)", "int gear(int,int)", "int run(int,int)",
        "int least(int)", "int weigh(int,int)", "int lay(int)", "int behind(int,int,int)",
        "int apart(int,int,int)", "int see(int,int)", "int forget()", "int steps()", "int trial()",
        "int days(int,int,int)", "int image()", "int restore()", "int count(int)", "long digest()"};
    private static final Set<String> CONSTANTS = Set.of("NONE", "UNKNOWN", "OUTSIDE", "STATE", "FULL");
    private static final String[] WORDS = {"throw", "throws", "try", "catch", "finally", "synchronized", "assert",
        "import", "package", "native", "volatile", "protected", "default\\s+\\w+\\s*\\(", "->", "::", "@\\w+",
        "\\w+Exact", "Integer", "Object", "var", "hashCode", "toString", "System", "Thread", "while\\s*\\(true"};

    private static final Check check = new Check();

    public static void main(String[] args) throws Exception {
        face();
        fields();
        classes();
        if (args.length > 0) {
            source(Files.readString(Path.of(args[0])));
        }
        roomOfManyObjects();
        check.end("RulesTest");
    }

    private static String told(Method m) {
        StringBuilder text = new StringBuilder(m.getReturnType() + " " + m.getName() + "(");
        for (Class<?> type : m.getParameterTypes()) {
            text.append(text.charAt(text.length() - 1) == '(' ? "" : ",").append(type);
        }
        return text.append(")").toString();
    }

    private static void face() {
        Set<String> open = new TreeSet<>();
        Set<String> names = new TreeSet<>();
        for (Method m : RingArm.class.getDeclaredMethods()) {
            if (!Modifier.isPrivate(m.getModifiers())) {
                check.isTrue(m + " is public and not static",
                    Modifier.isPublic(m.getModifiers()) && !Modifier.isStatic(m.getModifiers()));
                open.add(told(m));
                names.add(m.getName());
            }
            check.isTrue(m + " takes at most seven", m.getParameterCount() <= 7);
        }
        check.isTrue("the face is the document's: " + open, open.equals(new TreeSet<>(Set.of(FACE))));
        for (Method m : RingArm.class.getDeclaredMethods()) {
            check.isTrue(m + " bears no public name",
                !Modifier.isPrivate(m.getModifiers()) || !names.contains(m.getName()));
        }
        Constructor<?>[] all = RingArm.class.getDeclaredConstructors();
        check.isTrue("one public constructor without arguments",
            all.length == 1 && Modifier.isPublic(all[0].getModifiers()) && all[0].getParameterCount() == 0);
        check.isTrue("public and final", (RingArm.class.getModifiers() & (Modifier.PUBLIC | Modifier.FINAL))
            == (Modifier.PUBLIC | Modifier.FINAL));
    }

    private static void fields() {
        int own = 0;
        for (Field f : RingArm.class.getDeclaredFields()) {
            if (CONSTANTS.contains(f.getName())) {
                check.isTrue(f + " is a public constant", Modifier.isPublic(f.getModifiers())
                    && Modifier.isStatic(f.getModifiers()) && Modifier.isFinal(f.getModifiers()));
            } else {
                check.isTrue(f + " is private", Modifier.isPrivate(f.getModifiers()));
                check.isTrue(f + " is no state of the class",
                    !Modifier.isStatic(f.getModifiers()) || Modifier.isFinal(f.getModifiers()));
                own += Modifier.isStatic(f.getModifiers()) ? 0 : 1;
            }
        }
        check.isTrue("some twenty fields: " + own, own <= 20);
    }

    private static void classes() {
        Class<?>[] inside = RingArm.class.getDeclaredClasses();
        check.isTrue("some twelve classes: " + (inside.length + 1), inside.length < 12);
        for (Class<?> c : inside) {
            check.isTrue(c + " is static and private",
                Modifier.isStatic(c.getModifiers()) && Modifier.isPrivate(c.getModifiers()));
            for (Method m : c.getDeclaredMethods()) {
                check.isTrue(m + " takes at most seven", m.getParameterCount() <= 7);
            }
        }
    }

    private static void source(String text) {
        String code = text.replaceAll("(?s)/\\*.*?\\*/", " ").replaceAll("//[^\n]*", " ");
        for (String word : WORDS) {
            boolean bare = Character.isLetter(word.charAt(0));
            Matcher m = Pattern.compile(bare ? "\\b" + word + "\\b" : word).matcher(code);
            check.isTrue("no '" + word + "' in the program", !m.find());
        }
        Matcher math = Pattern.compile("Math\\.(\\w+)").matcher(code);
        while (math.find()) {
            check.isTrue("Math." + math.group(1), Set.of("abs", "min", "max", "floorMod").contains(math.group(1)));
        }
        // A row's cell is touched by at(), put(), copyRow() and policyOf() alone, each behind a test.
        Matcher cell = Pattern.compile("\\w\\[\\w[^\\]]*\\]").matcher(code.replaceAll("new int\\[[A-Z_]+\\]", ""));
        int cells = 0;
        while (cell.find()) {
            cells++;
        }
        check.isTrue("cells are touched in five places: " + cells, cells == 5);
    }

    /** Objects are made in the constructor alone: their number must not grow with the calls. */
    private static void roomOfManyObjects() {
        com.sun.management.ThreadMXBean bean =
            (com.sun.management.ThreadMXBean) java.lang.management.ManagementFactory.getThreadMXBean();
        RingArm x = Check.plate("ca8b6c4d3e2f;32;s");
        long sum = everyCall(x);
        long before = bean.getThreadAllocatedBytes(Thread.currentThread().getId());
        for (int i = 0; i < 20; i++) {
            sum += everyCall(x);
        }
        long made = bean.getThreadAllocatedBytes(Thread.currentThread().getId()) - before;
        check.isTrue("no objects made by calls: " + made + " bytes (" + sum + ")", made < 2000);
    }

    private static long everyCall(RingArm x) {
        long sum = x.letter('a') + x.fault() + x.plate() + x.blank() + x.image();
        for (int i = 0; i < 8; i++) {
            sum += x.ask(i % 6, i % 2) + x.weigh(i, i) + x.see(i, 3 * i);
        }
        for (int what = 0; what < 17; what++) {
            sum += x.ring(1, what) + x.asked(1, what) + x.as(what) + x.run(what, 1) + x.least(what) + x.lay(what)
                + x.behind(0, 1, what) + x.apart(0, what, 1) + x.count(what) + x.choose(what);
        }
        sum += x.next() + x.serve() + x.read(0) + x.pass(1) + x.skew(1, 2) + x.gear(2, 2) + x.steps() + x.trial();
        return sum + x.days(60, 7, 1) + x.digest() + x.restore() + x.forget();
    }
}
