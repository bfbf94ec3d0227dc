import java.lang.reflect.Constructor;
import java.lang.reflect.Field;
import java.lang.reflect.Method;
import java.lang.reflect.Modifier;
import java.util.Arrays;
import java.util.TreeSet;

/** The public face: the class has every member that the document shows, and shows no other one. */
public final class FaceTest {
    private static final String[] METHODS = {
        "public boolean PointReports.kind(int,int)",
        "public boolean PointReports.change(int,int)",
        "public void PointReports.reports(boolean)",
        "public int PointReports.tick()",
        "public int PointReports.poll(int)",
        "public int PointReports.bring(int)",
        "public int PointReports.twice(int)",
        "public int PointReports.lose(int)",
        "public boolean PointReports.poke(int,int,int)",
        "public int PointReports.at(int,int)",
        "public int PointReports.flying()",
        "public boolean PointReports.feed(int)",
        "public boolean PointReports.inject(int)",
        "public int PointReports.view(int,int)",
        "public int PointReports.taken(int,int)",
        "public int PointReports.event(int,int,int)",
        "public int PointReports.count(int)",
    };

    private final Due due = new Due("FaceTest");

    public static void main(String[] args) {
        FaceTest test = new FaceTest();
        test.classIsPublicAndFinal();
        test.membersAreThose();
        test.classesInsideAreHiddenAndStatic();
        test.due.end();
    }

    private void classIsPublicAndFinal() {
        due.says("public final class PointReports");
        due.is("modifiers", PointReports.class.getModifiers(), Modifier.PUBLIC | Modifier.FINAL);
        due.yes("no superclass", PointReports.class.getSuperclass() == Object.class);
        due.is("interfaces", PointReports.class.getInterfaces().length, 0);
        due.says("public static final int BAD = -1;");
        due.is("BAD", PointReports.BAD, -1);
    }

    private void membersAreThose() {
        TreeSet<String> got = new TreeSet<>();
        for (Method m : PointReports.class.getDeclaredMethods()) {
            addUnlessPrivate(got, m.getModifiers(), m.toString());
        }
        for (Constructor<?> c : PointReports.class.getDeclaredConstructors()) {
            addUnlessPrivate(got, c.getModifiers(), c.toString());
        }
        for (Field f : PointReports.class.getDeclaredFields()) {
            addUnlessPrivate(got, f.getModifiers(), f.toString());
        }
        TreeSet<String> want = new TreeSet<>(Arrays.asList(METHODS));
        want.add("public PointReports()");
        want.add("public static final int PointReports.BAD");
        due.says("The public face");
        for (String member : want) {
            due.yes(member, got.contains(member));
        }
        for (String member : got) {
            due.yes("only the document's members: " + member, want.contains(member));
        }
    }

    private static void addUnlessPrivate(TreeSet<String> names, int modifiers, String name) {
        if (!Modifier.isPrivate(modifiers)) {
            names.add(name);
        }
    }

    private void classesInsideAreHiddenAndStatic() {
        due.says("but for the classes inside it, which are private or package-visible and static");
        for (Class<?> inside : PointReports.class.getDeclaredClasses()) {
            int m = inside.getModifiers();
            due.yes(inside.getName(), Modifier.isStatic(m) && !Modifier.isPublic(m) && !Modifier.isProtected(m));
        }
    }
}
