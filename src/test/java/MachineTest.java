import java.lang.management.ManagementFactory;
import java.lang.reflect.InvocationTargetException;
import java.lang.reflect.Member;
import java.lang.reflect.Method;
import java.lang.reflect.Modifier;
import java.nio.file.Files;
import java.nio.file.Path;
import java.util.ArrayList;
import java.util.List;
import java.util.Random;
import java.util.TreeSet;

/** The face, what may throw, what a run may make, and those rules of LANGUAGE.md that a text search sees. */
public final class MachineTest {
    private static final String SOURCE = "src/main/java/PushedTillItCatches.java";
    private static final String[] FACE = {
        "int street(int)", "int yard(int,int)", "int pusher(int,int)", "int lays(int)", "int set(int,int)",
        "int parks(int)", "int rolls(int)", "int tries(int)", "int waits(int)", "int behind(int,int)",
        "int catches(int)", "int inGear(int)", "int curve(int,int)", "int who()", "int leaveOne()", "int alone()",
        "int pushUp(int)", "int howLong()", "int hand()", "int showing()", "int park()", "int downTo()",
        "int safe()", "long odds(int,int,int,int)", "int what(int)", "int tryNext(int)", "int gettingIn(int)",
        "int marks(int,int)", "int forged(int)", "int judge(int)", "int mornings(int,int,int)", "int image()",
        "int restore()", "int count(int)", "int keep(int,int,int,int)", "int row(int,int,int)",
        "int put(int,int,int)", "long element(int,int)", "int copy(int,int,int,int,int)", "int cost(int)",
        "int toss(int)"};
    private static final String[] FORBIDDEN = {
        "->", "::", "import ", "package ", "@", "synchronized", "assert ", "finally", "static {", "Object", "var ",
        "double", "float", "System.out", "getMessage", "record ", "protected"};

    private static final Checks checks = new Checks("MachineTest");

    public static void main(String[] args) throws Exception {
        theFace();
        theSource();
        nothingThrows();
        oneRoom();
        checks.end();
    }

    private static List<Method> calls() {
        List<Method> calls = new ArrayList<>();
        for (Method method : PushedTillItCatches.class.getDeclaredMethods()) {
            if (Modifier.isPublic(method.getModifiers())) {
                calls.add(method);
            }
        }
        // getDeclaredMethods has no order of its own: the runs below need one.
        calls.sort((a, b) -> a.getName().compareTo(b.getName()));
        return calls;
    }

    private static boolean isOutsideTheFace(Member member) {
        return !member.isSynthetic() && !Modifier.isPrivate(member.getModifiers());
    }

    private static void theFace() {
        Class<?> face = PushedTillItCatches.class;
        checks.holds("the class is public and final", face.getModifiers() == (Modifier.PUBLIC | Modifier.FINAL));
        TreeSet<String> wanted = new TreeSet<>(List.of(FACE));
        TreeSet<String> found = new TreeSet<>();
        TreeSet<String> names = new TreeSet<>();
        for (Method method : face.getDeclaredMethods()) {
            if (isOutsideTheFace(method)) {
                String all = method.toString().replace("public ", "").replace("PushedTillItCatches.", "");
                found.add(all.replaceAll(" throws .*", ""));
                names.add(method.getName());
            }
        }
        checks.holds("the calls are " + wanted + ", found " + found, wanted.equals(found));
        checks.due("constructors", face.getDeclaredConstructors().length, 1);
        for (var field : face.getDeclaredFields()) {
            checks.holds("private: " + field, Modifier.isPrivate(field.getModifiers()));
        }
        checks.holds("some twelve classes", face.getDeclaredClasses().length <= 11);
        for (Class<?> inside : face.getDeclaredClasses()) {
            int modifiers = inside.getModifiers();
            boolean shown = Modifier.isPublic(modifiers) || Modifier.isProtected(modifiers);
            checks.holds("static and hidden: " + inside, Modifier.isStatic(modifiers) && !shown);
            for (Method method : inside.getDeclaredMethods()) {
                checks.holds("no name of the face: " + method, !names.contains(method.getName()));
            }
        }
        for (Method method : face.getDeclaredMethods()) {
            boolean ofFace = Modifier.isPublic(method.getModifiers());
            checks.holds("no name of the face: " + method, ofFace || !names.contains(method.getName()));
        }
    }

    private static void theSource() throws Exception {
        String source = Files.readString(Path.of(SOURCE)).replaceAll("/\\*(?s:.*?)\\*/", "").replaceAll("//.*", "");
        for (String word : FORBIDDEN) {
            checks.holds("the source is without '" + word + "'", !source.contains(word));
        }
        for (String line : source.split("\n")) {
            checks.holds("ASCII: " + line, line.chars().allMatch(c -> c >= 32 && c < 127));
        }
        checks.holds("methods of the class are found", countMethods(source, "    ") > 50);
        checks.holds("methods of the classes inside are found", countMethods(source, "        ") > 50);
    }

    /** Looks at the length of each method that begins with an indent: how many methods there are. */
    private static int countMethods(String source, String indent) {
        int methods = 0;
        int begun = -1;
        String[] lines = source.split("\n");
        for (int i = 0; i < lines.length; i++) {
            if (lines[i].matches(indent + "(?!if|for|while|switch|try|else|do)\\w[\\w\\[\\], ]*\\(.*\\{")) {
                begun = i;
            }
            if (begun >= 0 && lines[i].equals(indent + "}")) {
                methods++;
                checks.holds("a method of at most sixty lines ends at " + (i + 1), i - begun < 60);
                begun = -1;
            }
        }
        return methods;
    }

    private static final int[] EDGES = {
        Integer.MIN_VALUE, Integer.MIN_VALUE + 1, -1000, -101, -2, -1, 0, 1, 2, 3, 4, 5, 6, 7, 8, 9, 10, 19, 20, 21, 24,
        25, 39, 40, 41, 60, 61, 99, 100, 101, 255, 65536, Integer.MAX_VALUE - 1, Integer.MAX_VALUE};

    /** Only element may throw, and only what the document names. */
    private static void nothingThrows() throws Exception {
        List<Method> calls = calls();
        for (int run = 0; run < 300; run++) {
            Random random = new Random(run);
            String street = "y1" + run % 10 + ";y63;y59;y29;y45;y34;y77;p12051;p20400;p00001;w0" + (1 + run % 9) + ";";
            PushedTillItCatches x = run % 3 == 1 ? Streets.full() : Checks.told(run % 3 == 0 ? "" : street);
            for (int k = 0; k < 400; k++) {
                Method call = calls.get(random.nextInt(calls.size()));
                Object[] arguments = new Object[call.getParameterCount()];
                for (int a = 0; a < arguments.length; a++) {
                    int small = random.nextInt(10);
                    arguments[a] = random.nextInt(3) == 0 ? EDGES[random.nextInt(EDGES.length)] : small;
                }
                checks.holds("run " + run + ": " + call + " ends as told", endsAsTold(x, call, arguments));
            }
        }
    }

    private static boolean endsAsTold(PushedTillItCatches x, Method call, Object[] arguments) throws Exception {
        try {
            call.invoke(x, arguments);
            return true;
        } catch (InvocationTargetException thrown) {
            Class<?> what = thrown.getCause().getClass();
            boolean told = what == IllegalArgumentException.class || what == IllegalStateException.class;
            return told && call.getName().equals("element");
        }
    }

    /** All calls of one run live in one room: 512 of the dearest must stay far below it. */
    private static void oneRoom() throws Exception {
        var threads = (com.sun.management.ThreadMXBean) ManagementFactory.getThreadMXBean();
        PushedTillItCatches x = Checks.told("y16;y25;y30;y43;y54;y00;y60;p02400;p02400;p02400;p02400;p02400;g9;");
        Checks.fill(x, 0, 0, "y00;".repeat(20).chars().toArray());
        x.keep(1, 1, 4, 9);
        long before = threads.getCurrentThreadAllocatedBytes();
        for (int k = 0; k < 40; k++) {
            x.street(0);
            x.who();
            x.leaveOne();
            x.alone();
            x.pushUp(0);
            x.howLong();
            x.mornings(20, k, 0);
            x.keep(1, 1, 4, 9);
            x.row(2, 2, 100);
            x.toss(1);
            x.parks(k % 5);
            x.image();
            x.restore();
        }
        long made = threads.getCurrentThreadAllocatedBytes() - before;
        checks.holds("520 calls make less than a megabyte: " + made, made < 1 << 20);
    }
}
