import java.lang.reflect.Constructor;
import java.lang.reflect.Field;
import java.lang.reflect.Method;
import java.lang.reflect.Modifier;
import java.nio.file.Files;
import java.nio.file.Path;
import java.util.ArrayList;
import java.util.Arrays;
import java.util.List;
import java.util.Set;
import java.util.TreeSet;
import java.util.regex.Matcher;
import java.util.regex.Pattern;

/** The rules of LANGUAGE.md that can be seen from the text or the face of the class. */
public final class LanguageTest {
    private static final String[] FACE = {
        "int works(int)", "int equation()", "int put(int,int,int)", "int right(int,int)",
        "int bound(int,int,int)", "int price(int,int,int)", "int tray(int,int,int)", "int cell(int,int,long)",
        "int copy(int,int,int,int)", "int lay(int,int,int)", "int least()", "int step(int,int)", "int kind(int)",
        "int back(int)", "int hand(int,int)", "int has(int)", "int what()", "int fits(int)", "int split(int)",
        "int add(int,int)", "long cost()", "int better()", "int best()", "int plans()", "int plan(int,int)",
        "int take(int)", "int less(int)", "int find()", "int span(int,int)", "int extreme(int)", "int near(int)",
        "int count(int)"
    };
    private static int wrong;

    public static void main(String[] args) throws Exception {
        theFace();
        theText(Files.readString(Path.of("src/main/java/StepWorks.java")));
        whatCallsMake();
        System.out.println(wrong == 0 ? "LanguageTest: the rules are kept" : "LanguageTest: " + wrong + " wrong");
        System.exit(wrong == 0 ? 0 : 1);
    }

    private static void tell(String text) {
        wrong++;
        System.out.println(text);
    }

    private static void theFace() {
        Set<String> seen = new TreeSet<>();
        Set<String> names = new TreeSet<>();
        for (Method m : StepWorks.class.getDeclaredMethods()) {
            if (Modifier.isPublic(m.getModifiers())) {
                List<String> types = new ArrayList<>();
                for (Class<?> type : m.getParameterTypes()) {
                    types.add(type.getName());
                }
                seen.add(m.getReturnType() + " " + m.getName() + "(" + String.join(",", types) + ")");
                names.add(m.getName());
            } else if (!Modifier.isPrivate(m.getModifiers())) {
                tell("rule 1: " + m);
            }
        }
        if (!seen.equals(new TreeSet<>(Arrays.asList(FACE)))) {
            tell("rule 1: the face is " + seen);
        }
        for (Field f : StepWorks.class.getDeclaredFields()) {
            boolean constant = f.getName().equals("NONE");
            if (constant != Modifier.isPublic(f.getModifiers()) || !constant && !Modifier.isPrivate(f.getModifiers())) {
                tell("rule 1: " + f);
            }
        }
        Constructor<?>[] made = StepWorks.class.getDeclaredConstructors();
        if (made.length != 1 || !Modifier.isPublic(made[0].getModifiers()) || made[0].getParameterCount() != 0) {
            tell("rule 1: constructors");
        }
        if (!Modifier.isFinal(StepWorks.class.getModifiers())) {
            tell("rule 1: not final");
        }
        theClassesInside(names);
    }

    private static void theClassesInside(Set<String> faceNames) {
        Class<?>[] inside = StepWorks.class.getDeclaredClasses();
        if (inside.length + 1 > 12) {
            tell("rule 11: too many classes");
        }
        for (Class<?> c : inside) {
            if (!Modifier.isStatic(c.getModifiers()) || c.getDeclaredClasses().length > 0) {
                tell("rule 2: " + c);
            }
            for (Method m : c.getDeclaredMethods()) {
                if (faceNames.contains(m.getName())) {
                    tell("rule 1: " + m + " bears a name of the face");
                }
                if (m.getParameterCount() > 7) {
                    tell("rule 11: " + m);
                }
            }
            long fields = Arrays.stream(c.getDeclaredFields()).filter(f -> !Modifier.isStatic(f.getModifiers())).count();
            if (fields > 20) {
                tell("rule 11: " + c + " has " + fields + " fields");
            }
            for (Field f : c.getDeclaredFields()) {
                if (Modifier.isStatic(f.getModifiers()) && !Modifier.isFinal(f.getModifiers())) {
                    tell("rule 5: " + f);
                }
            }
        }
    }

    private static void theText(String text) {
        String code = text.replaceAll("(?s)/\\*.*?\\*/", "").replaceAll("//[^\n]*", "");
        String[] none = {"\\bthrow\\b", "\\btry\\b", "\\bcatch\\b", "\\bsynchronized\\b", "\\bassert\\b", "->", "::",
            "\\bpackage\\b", "Exact\\b", "\\bdouble\\b", "\\bfloat\\b", "\\bvar\\b", "\\bstatic\\s*\\{", "\\bvolatile\\b",
            "\\bnull\\b", "@", "\""};
        for (String word : none) {
            if (Pattern.compile(word).matcher(code).find()) {
                tell("rules 3, 4, 6: " + word);
            }
        }
        Matcher library = Pattern.compile("\\b(System|Arrays|Math|Integer|Long)\\.(\\w+)|import ([\\w.]+)").matcher(code);
        Set<String> allowed = Set.of("System.arraycopy", "Arrays.fill", "Math.max", "Math.min", "Math.abs",
            "Math.floorDiv", "import java.util.Arrays");
        while (library.find()) {
            if (!allowed.contains(library.group())) {
                tell("rule 4: " + library.group());
            }
        }
        for (char c : text.toCharArray()) {
            if (c > 126 || c < 32 && c != '\n') {
                tell("rule 3: a sign with the number " + (int) c);
            }
        }
        methodLengths(code.split("\n"));
    }

    /** A method's lines run from its head to the brace that stands below the head's first sign. */
    private static void methodLengths(String[] lines) {
        for (int i = 0; i < lines.length; i++) {
            String indent = lines[i].replaceAll("\\S.*", "");
            boolean head = lines[i].matches("\\s+[\\w\\[\\] ]+\\(.*\\{") && indent.length() <= 8;
            for (int k = i + 1; head && k < lines.length; k++) {
                if (lines[k].equals(indent + "}")) {
                    if (k - i + 1 > 60) {
                        tell("rule 11: long: " + lines[i].trim());
                    }
                    break;
                }
            }
        }
    }

    /** Calls behind the constructor make nothing that lasts. */
    private static void whatCallsMake() {
        var bean = (com.sun.management.ThreadMXBean) java.lang.management.ManagementFactory.getThreadMXBean();
        long id = Thread.currentThread().getId();
        StepWorks x = new StepWorks();
        work(x);
        long before = bean.getThreadAllocatedBytes(id);
        work(x);
        long made = bean.getThreadAllocatedBytes(id) - before;
        if (made > 1000) {
            tell("rule 12: calls made " + made + " bytes");
        }
    }

    private static void work(StepWorks x) {
        for (int k = 0; k < 100; k++) {
            x.works(4);
            x.tray(k % 4, k % 4, 20);
            x.cell(k % 4, 0, 1);
            x.copy(k % 4, 1, k % 4, 19);
            for (int e = 0; e < k % 4; e++) {
                x.equation();
                x.lay(e, k % 4, 3 * e);
                x.put(e, e, -k % 6);
            }
            x.plans();
            x.take(0);
            x.price(1, -9, 3);
            x.best();
            x.less(0);
            x.split(0);
            x.count(6);
            x.near(0);
            x.extreme(1);
            x.span(2, 1);
            x.find();
            x.kind(0);
        }
    }
}
