import java.io.PrintWriter;
import java.io.StringWriter;
import java.lang.reflect.Field;
import java.lang.reflect.Method;
import java.lang.reflect.Modifier;
import java.nio.file.Path;
import java.util.ArrayList;
import java.util.List;
import java.util.Map;
import java.util.Set;
import java.util.TreeMap;
import java.util.TreeSet;
import java.util.regex.Matcher;
import java.util.regex.Pattern;
import java.util.spi.ToolProvider;

/** The form of the code: the rules of LANGUAGE.md that can be seen in the compiled class. */
public final class LanguageTest {
    private static final String OUTER = "PointReports";
    private static final Set<String> LIBRARY = Set.of("java/lang/Object.<init>", "java/lang/Math.min", "java/lang/Math.max");
    private static final Set<String> MAKING = Set.of("new", "newarray", "anewarray", "multianewarray");

    private static final Pattern HEADER = Pattern.compile("^  (?:.* )?([\\w$]+)\\(.*\\);$");
    private static final Pattern CODE = Pattern.compile("^ +\\d+: (\\w+)(?: .*?// \\w*[mM]ethod ([^:]+):.*)?.*$");

    private final Due due = new Due("LanguageTest");
    private final List<Class<?>> classes = new ArrayList<>();
    /** Each method, by its class and name, with those that it calls. */
    private final Map<String, Set<String>> calls = new TreeMap<>();

    public static void main(String[] args) throws Exception {
        LanguageTest test = new LanguageTest();
        test.classes.add(PointReports.class);
        test.classes.addAll(List.of(PointReports.class.getDeclaredClasses()));
        test.namesAreNotThoseOfTheFace();
        test.staticFieldsAreFinal();
        test.formIsSmall();
        for (Class<?> c : test.classes) {
            test.readCode(c);
        }
        test.callsEndAndStayLow();
        test.due.end();
    }

    private void namesAreNotThoseOfTheFace() {
        due.says("No private method bears the name of a public one");
        Set<String> face = new TreeSet<>();
        for (Method m : PointReports.class.getMethods()) {
            face.add(m.getName());
        }
        for (Class<?> c : classes) {
            for (Method m : c.getDeclaredMethods()) {
                boolean own = c == PointReports.class && Modifier.isPublic(m.getModifiers());
                due.yes(c.getName() + "." + m.getName(), own || !face.contains(m.getName()));
            }
        }
    }

    private void staticFieldsAreFinal() {
        due.says("Static fields are final");
        for (Class<?> c : classes) {
            for (Field f : c.getDeclaredFields()) {
                due.yes(f.toString(), !Modifier.isStatic(f.getModifiers()) || Modifier.isFinal(f.getModifiers()));
            }
        }
    }

    private void formIsSmall() {
        due.says("the file has at most some twelve classes, and a class some twenty fields beside its constants");
        due.yes(classes.size() + " classes", classes.size() <= 12);
        for (Class<?> c : classes) {
            int fields = 0;
            for (Field f : c.getDeclaredFields()) {
                fields += Modifier.isStatic(f.getModifiers()) ? 0 : 1;
            }
            due.yes(c.getName() + " has " + fields + " fields", fields <= 20);
        }
        due.says("A method takes at most seven parameters");
        for (Class<?> c : classes) {
            for (Method m : c.getDeclaredMethods()) {
                due.yes(m.toString(), m.getParameterCount() <= 7);
            }
        }
    }

    /** What javap shows of a class: what its methods call, and what they do that the rules leave out. */
    private void readCode(Class<?> c) throws Exception {
        String method = "";
        for (String line : disassembled(c)) {
            Matcher header = HEADER.matcher(line);
            Matcher code = CODE.matcher(line);
            if (header.matches()) {
                boolean constructor = header.group(1).equals(c.getName());
                method = c.getName() + "." + (constructor ? "<init>" : header.group(1));
                calls.computeIfAbsent(method, name -> new TreeSet<>());
            } else if (code.matches()) {
                instruction(method, code.group(1));
                if (code.group(2) != null) {
                    call(c, method, code.group(2).replace("\"", ""));
                }
            }
            due.says("no static initialiser block");
            due.no(c.getName() + ": " + line, line.contains("static {}"));
            due.says("A call of the face throws exactly what and where the document says");
            due.no(method + ": " + line, line.contains("Exception table"));
        }
    }

    private static List<String> disassembled(Class<?> c) throws Exception {
        Path folder = Path.of(PointReports.class.getProtectionDomain().getCodeSource().getLocation().toURI());
        StringWriter out = new StringWriter();
        PrintWriter to = new PrintWriter(out);
        ToolProvider javap = ToolProvider.findFirst("javap").orElseThrow();
        javap.run(to, to, "-p", "-c", "-cp", folder.toString(), c.getName());
        return out.toString().lines().toList();
    }

    private void instruction(String method, String name) {
        due.says("no lambda, no method reference");
        due.no(method + " has " + name, name.equals("invokedynamic"));
        due.says("A call of the face throws exactly what and where the document says");
        due.no(method + " has " + name, name.equals("athrow"));
        due.says("No synchronized");
        due.no(method + " has " + name, name.equals("monitorenter"));
        // Stricter than the rule: all that is ever made is made with the object.
        due.says("What a run makes is counted");
        due.no(method + " has " + name, MAKING.contains(name) && !method.endsWith(".<init>"));
    }

    private void call(Class<?> c, String method, String target) {
        String whole = target.contains(".") ? target : c.getName() + "." + target;
        if (whole.startsWith(OUTER)) {
            calls.get(method).add(whole);
            return;
        }
        due.says("The library: only what stands here");
        due.yes(method + " calls " + whole, LIBRARY.contains(whole));
    }

    private void callsEndAndStayLow() {
        due.says("calls that are no recursion go at most eight deep");
        due.yes("javap was understood", calls.size() > 17 && calls.get("PointReports.bring").size() > 1);
        for (String method : calls.keySet()) {
            int deep = depth(method, 0);
            due.yes(method + " goes " + deep + " deep", deep <= 8);
        }
    }

    /** Far above eight for a method that calls itself, by whatever way. */
    private int depth(String method, int above) {
        int deepest = 0;
        if (above < 20) {
            for (String called : calls.getOrDefault(method, Set.of())) {
                deepest = Math.max(deepest, depth(called, above + 1));
            }
        }
        return 1 + deepest;
    }
}
