import java.lang.management.ManagementFactory;
import java.lang.reflect.Constructor;
import java.lang.reflect.Field;
import java.lang.reflect.Method;
import java.lang.reflect.Modifier;
import java.nio.file.Files;
import java.nio.file.Path;
import java.util.ArrayList;
import java.util.Arrays;
import java.util.List;
import java.util.Set;
import java.util.TreeSet;
import java.util.regex.Matcher;
import java.util.regex.Pattern;

/** The public face, what LANGUAGE.md rules out (as far as a test can see it), and how little is made. */
public final class RulesTest {
    private static final Due DUE = new Due("RulesTest");
    private static final String ROOT = System.getProperty("project.root", ".");

    /** Every method of the document's face, as told() tells it. */
    private static Set<String> methodsDue() throws Exception {
        String document = Files.readString(Path.of(ROOT, "../shared/DOC.md"));
        int from = document.indexOf("## The public face");
        String face = document.substring(from, document.indexOf("## Terms", from));
        Set<String> due = new TreeSet<>();
        Matcher method = Pattern.compile("public (int|long) (\\w+)\\(([^)]*)\\);").matcher(face);
        while (method.find()) {
            String types = method.group(3).replaceAll(" \\w+(, |$)", ",").replaceAll(",$", "");
            due.add(method.group(2) + "(" + types + ")" + (method.group(1).equals("long") ? "L" : ""));
        }
        DUE.about("the document's face").is(45, due.size(), "how many methods");
        return due;
    }

    private static String told(Method m) {
        StringBuilder told = new StringBuilder(m.getName()).append('(');
        for (Class<?> type : m.getParameterTypes()) {
            told.append(told.charAt(told.length() - 1) == '(' ? "" : ",").append(type.getName());
        }
        return told.append(')').append(m.getReturnType() == long.class ? "L" : "").toString();
    }

    private static boolean isPrivate(int modifiers) {
        return Modifier.isPrivate(modifiers);
    }

    private static void face(Set<String> due) {
        DUE.about("the public face");
        Set<String> found = new TreeSet<>();
        for (Method m : LightMan.class.getDeclaredMethods()) {
            if (!isPrivate(m.getModifiers())) {
                DUE.holds(Modifier.isPublic(m.getModifiers()) && !Modifier.isStatic(m.getModifiers()), m.getName());
                found.add(told(m));
            }
        }
        DUE.holds(found.equals(due), "methods " + found);
        Set<String> fields = new TreeSet<>();
        for (Field f : LightMan.class.getDeclaredFields()) {
            if (!isPrivate(f.getModifiers())) {
                fields.add(Modifier.toString(f.getModifiers()) + " " + f.getType() + " " + f.getName());
            }
        }
        DUE.is(3, fields.size(), "how many open fields");
        for (String name : new String[] {"BAD", "FULL", "NONE"}) {
            DUE.holds(fields.contains("public static final int " + name), name);
        }
        DUE.is(-1, LightMan.BAD, "BAD");
        DUE.is(-2, LightMan.FULL, "FULL");
        DUE.is(-3, LightMan.NONE, "NONE");
        Constructor<?>[] constructors = LightMan.class.getDeclaredConstructors();
        DUE.is(1, constructors.length, "how many constructors");
        DUE.holds(Modifier.isPublic(constructors[0].getModifiers()), "the constructor is public");
        DUE.is(0, constructors[0].getParameterCount(), "the constructor's parameters");
        DUE.holds(Modifier.isFinal(LightMan.class.getModifiers()), "the class is final");
    }

    private static void classes(Set<String> due) {
        DUE.about("rules 1, 2, 5, 11");
        Set<String> open = new TreeSet<>();
        for (String method : due) {
            open.add(method.substring(0, method.indexOf('(')));
        }
        List<Class<?>> all = new ArrayList<>(Arrays.asList(LightMan.class.getDeclaredClasses()));
        for (Class<?> c : all) {
            int modifiers = c.getModifiers();
            DUE.holds(Modifier.isStatic(modifiers) && !Modifier.isPublic(modifiers), c.getName());
        }
        all.add(LightMan.class);
        DUE.holds(all.size() <= 12, "twelve classes at most");
        for (Class<?> c : all) {
            int own = 0;
            for (Field f : c.getDeclaredFields()) {
                own += Modifier.isStatic(f.getModifiers()) ? 0 : 1;
                DUE.holds(!Modifier.isStatic(f.getModifiers()) || Modifier.isFinal(f.getModifiers()), "static " + f);
            }
            DUE.holds(own <= 20, "twenty fields at most in " + c.getName());
            for (Method m : c.getDeclaredMethods()) {
                DUE.holds(m.getParameterCount() <= 7, "seven parameters at most in " + m);
                boolean isOpen = c == LightMan.class && !isPrivate(m.getModifiers());
                DUE.holds(isOpen || !open.contains(m.getName()), m + " bears a name of its own");
                DUE.holds(!m.isSynthetic(), m + " is written out");
            }
        }
    }

    /** The source without comments and without what stands in texts and signs. */
    private static String bare(String source) {
        String code = Pattern.compile("/\\*.*?\\*/", Pattern.DOTALL).matcher(source).replaceAll(" ");
        return code.replaceAll("//[^\n]*", "").replaceAll("\"[^\"\n]*\"", "\"\"").replaceAll("'[^'\n]*'", "' '");
    }

    private static void source() throws Exception {
        DUE.about("rules 3 to 6, 11, 13");
        Path path = Path.of(ROOT, "src/main/java/LightMan.java");
        String source = Files.readString(path);
        String code = bare(source);
        String[] never = {"throw", "throws", "try", "catch", "finally", "synchronized", "assert", "import", "package",
            "System", "Object", "Thread", "native", "volatile", "transient", "protected", "var", "equals", "hashCode"};
        for (String word : never) {
            DUE.holds(!Pattern.compile("\\b" + word + "\\b").matcher(code).find(), "no " + word);
        }
        for (String sign : new String[] {"->", "::", "@", "static {", "[][]"}) {
            DUE.holds(!code.contains(sign), "no " + sign);
        }
        for (char c : source.toCharArray()) {
            if (c > 126 || c < ' ' && c != '\n') {
                DUE.holds(false, "only plain signs, not " + (int) c);
            }
        }
        Matcher library = Pattern.compile("\\b(Math|Integer|Long)\\.(\\w+)").matcher(code);
        Set<String> allowed = Set.of("max", "min", "floorMod", "bitCount");
        while (library.find()) {
            DUE.holds(allowed.contains(library.group(2)), library.group());
        }
        methodLengths(source);
    }

    private static void methodLengths(String source) {
        String[] lines = source.split("\n");
        int start = -1;
        for (int i = 0; i < lines.length; i++) {
            if (lines[i].matches("( {4}| {8})\\w[^;=]*\\) \\{") && !lines[i].contains(" class ")) {
                start = i;
            } else if (start >= 0 && lines[i].equals(lines[start].replaceAll("\\S.*", "}"))) {
                DUE.holds(i - start < 60, "sixty lines at most from line " + (start + 1));
                start = -1;
            }
        }
    }

    private static void fill(LightMan man) {
        for (int i = 0; i < 8; i++) {
            man.goer(i % 6, 9 * i, i);
        }
        man.sheet(0, 0, 40);
        man.shelf(0, 0, 4);
    }

    private static void callDear(LightMan man, int i) {
        man.liftedFor(40, 8);
        man.armsFor(i % 6, 40);
        man.fits(0, i % 8, 1);
        man.faithFor(i % 8, 40);
        man.fogFor(i % 6, i % 8, 40);
        man.kindFor(i % 8);
        man.luck(30);
        man.prove(i % 8, 10);
        man.judge(i % 8);
        man.passed(60);
        man.act(0, 3, i);
        man.keep();
        man.again();
        man.feed(0x3b38206d7568L, 6);
        man.tunnel();
        fill(man);
    }

    /** Only sheet() makes something behind the constructor: a row, of 40 items at most, and what holds it. */
    private static void room() {
        DUE.about("rule 12");
        com.sun.management.ThreadMXBean threads = (com.sun.management.ThreadMXBean) ManagementFactory.getThreadMXBean();
        long id = Thread.currentThread().getId();
        LightMan man = new LightMan();
        fill(man);
        callDear(man, 0);
        long before = threads.getThreadAllocatedBytes(id);
        for (int i = 0; i < 200; i++) {
            callDear(man, i);
        }
        long made = threads.getThreadAllocatedBytes(id) - before;
        DUE.holds(made < 200 * 400, "made " + made + " bytes in 200 rounds of calls");
        before = threads.getThreadAllocatedBytes(id);
        LightMan fresh = new LightMan();
        made = threads.getThreadAllocatedBytes(id) - before;
        DUE.holds(fresh.many(0) == 0 && made < 4000, "made " + made + " bytes for an object");
    }

    public static void main(String[] args) throws Exception {
        Set<String> due = methodsDue();
        face(due);
        classes(due);
        source();
        room();
        DUE.end();
    }
}
