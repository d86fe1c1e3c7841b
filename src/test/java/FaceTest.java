import java.io.IOException;
import java.lang.management.ManagementFactory;
import java.lang.reflect.Constructor;
import java.lang.reflect.Field;
import java.lang.reflect.Method;
import java.lang.reflect.Modifier;
import java.nio.file.Files;
import java.nio.file.Path;
import java.util.Set;
import java.util.TreeSet;
import java.util.regex.Matcher;
import java.util.regex.Pattern;

/** The document's public face, and those rules of LANGUAGE.md that a program can see. */
public final class FaceTest {
    private static final Due due = new Due();
    private static final String[] CALLS = {
        "int town()", "int hall()", "int people(int,int)", "int fine(int,int)", "int place(int,int)",
        "int price(int,int)", "int room(int,int)", "int sheet(int,int,int)", "int lose(int)", "int way(int,int,int)",
        "int copy(int,int,int,int,int)", "int far(int,int)", "int about(int,int,int)", "int undo()", "int open(int)",
        "int opened()", "int cost(int)", "int goes(int,int)", "int worst(int)", "int least(int,int)",
        "int many(int,int)", "int best(int,int,int)", "int number(int,int)", "int better(int,int)",
        "int claim(int,int)", "int claimed(int)", "int holds()", "int raise()", "int fair()", "long share(int,int)",
        "int line(int,int)", "int lineAt(int,int,int)", "int count(int)"};

    private static String told(Method m) {
        StringBuilder text = new StringBuilder(m.getReturnType().getName()).append(' ').append(m.getName()).append('(');
        for (Class<?> type : m.getParameterTypes()) {
            text.append(text.charAt(text.length() - 1) == '(' ? "" : ",").append(type.getName());
        }
        return text.append(')').toString();
    }

    private static void calls() {
        Set<String> wanted = new TreeSet<>(Set.of(CALLS));
        Set<String> names = new TreeSet<>();
        for (String call : CALLS) {
            names.add(call.substring(call.indexOf(' ') + 1, call.indexOf('(')));
        }
        Set<String> found = new TreeSet<>();
        for (Method m : HallDesk.class.getDeclaredMethods()) {
            if (Modifier.isPublic(m.getModifiers())) {
                found.add(told(m));
            } else {
                due.isTrue(m + " is private", Modifier.isPrivate(m.getModifiers()));
                due.isTrue(m + " does not bear a public name", !names.contains(m.getName()));
            }
        }
        due.isTrue("public calls " + found, found.equals(wanted));
        for (Class<?> inside : HallDesk.class.getDeclaredClasses()) {
            due.isTrue(inside + " is static", Modifier.isStatic(inside.getModifiers()));
            due.isTrue(inside + " is not public", !Modifier.isPublic(inside.getModifiers()));
            due.isTrue(inside + " has some twenty fields at most", inside.getDeclaredFields().length <= 20);
            for (Method m : inside.getDeclaredMethods()) {
                due.isTrue(m + " does not bear a public name", !names.contains(m.getName()));
                due.isTrue(m + " takes seven numbers at most", m.getParameterCount() <= 7);
            }
        }
        due.isTrue("some twelve classes at most", HallDesk.class.getDeclaredClasses().length <= 11);
    }

    private static void constants() throws IllegalAccessException {
        String[] names = {"NONE", "BAD", "NO", "FULL", "NOTHING", "INDEX", "SIZE"};
        int[] values = {-1, -3, -4, -5, -11, -13, -14};
        Set<String> wanted = new TreeSet<>(Set.of(names));
        Set<String> found = new TreeSet<>();
        for (Field f : HallDesk.class.getDeclaredFields()) {
            if (Modifier.isPublic(f.getModifiers())) {
                found.add(f.getName());
                for (int i = 0; i < names.length; i++) {
                    if (names[i].equals(f.getName())) {
                        due.is(names[i], f.getInt(null), values[i]);
                    }
                }
                due.isTrue(f + " is a constant", Modifier.isStatic(f.getModifiers()) && Modifier.isFinal(f.getModifiers()));
            } else {
                due.isTrue(f + " is private", Modifier.isPrivate(f.getModifiers()));
                due.isTrue(f + " is final, if it is static",
                        !Modifier.isStatic(f.getModifiers()) || Modifier.isFinal(f.getModifiers()));
            }
        }
        due.isTrue("constants " + found, found.equals(wanted));
    }

    private static void maker() {
        Constructor<?>[] makers = HallDesk.class.getDeclaredConstructors();
        due.is("constructors", makers.length, 1);
        due.isTrue("it is public", Modifier.isPublic(makers[0].getModifiers()));
        due.is("it takes", makers[0].getParameterCount(), 0);
        due.isTrue("the class is final", Modifier.isFinal(HallDesk.class.getModifiers()));
        due.isTrue("it has no package", HallDesk.class.getPackageName().isEmpty());
    }

    private static void words(String source) {
        String code = withoutComments(source);
        String[] forbidden = {"\\bthrow\\b", "\\btry\\b", "\\bcatch\\b", "\\bsynchronized\\b", "\\bassert\\b", "->", "::",
            "\\bprotected\\b", "Exact\\b", "\\bSystem\\.(?!arraycopy\\b)", "\\bstatic\\s*\\{", "\\bpackage\\b",
            "\\bimport\\s+(?!java\\.util\\.Arrays;)", "\\bMath\\.random\\b", "\\bfinalize\\b", "\""};
        for (String word : forbidden) {
            Matcher m = Pattern.compile(word).matcher(code);
            due.isTrue("nothing of the form " + word, !m.find());
        }
        boolean plain = source.chars().allMatch(c -> c < 128);
        due.isTrue("plain characters", plain);
    }

    private static String withoutComments(String source) {
        return source.replaceAll("(?s)/\\*.*?\\*/", "").replaceAll("//[^\n]*", "");
    }

    // Rule 4 lists functions alone: a constant such as Integer.MAX_VALUE is none of them.
    private static void library(String source) {
        Set<String> listed =
                Set.of("Integer.bitCount", "Math.abs", "Math.max", "Math.min", "System.arraycopy", "Arrays.fill");
        Set<String> own = new TreeSet<>();
        for (Class<?> inside : HallDesk.class.getDeclaredClasses()) {
            own.add(inside.getSimpleName());
        }
        Matcher m = Pattern.compile("\\b([A-Z]\\w*)\\.\\w+").matcher(withoutComments(source));
        while (m.find()) {
            due.isTrue("rule 4 lists " + m.group(), own.contains(m.group(1)) || listed.contains(m.group()));
        }
    }

    // All that lives in one run is counted: a desk is small, and its calls make nothing.
    private static void space() {
        com.sun.management.ThreadMXBean threads =
                (com.sun.management.ThreadMXBean) ManagementFactory.getThreadMXBean();
        long[] seen = new long[3];
        long me = Thread.currentThread().getId();
        for (int turn = 0; turn < 3; turn++) {
            seen[0] = threads.getThreadAllocatedBytes(me);
            HallDesk x = new HallDesk();
            seen[1] = threads.getThreadAllocatedBytes(me);
            useAll(x);
            seen[2] = threads.getThreadAllocatedBytes(me);
        }
        due.isTrue("a desk takes " + (seen[1] - seen[0]) + " bytes", seen[1] - seen[0] < 60000);
        due.isTrue("its calls take " + (seen[2] - seen[1]) + " bytes", seen[2] - seen[1] < 2000);
    }

    private static void useAll(HallDesk x) {
        for (int i = 0; i < 8; i++) {
            x.town();
            x.hall();
        }
        for (int h = 0; h < 7; h++) {
            x.sheet(h, 1, 8);
            x.room(h, 2);
            x.way(h, h, 7);
        }
        for (int kind = 0; kind < 7; kind++) {
            x.best(kind, -1, 0);
            x.better(kind, 60);
            x.goes(kind, 0);
        }
        x.raise();
        x.fair();
        x.share(3, 0);
        x.lineAt(0, 4, 1);
        x.copy(0, 0, 1, 0, 8);
        x.undo();
    }

    public static void main(String[] args) throws IOException, IllegalAccessException {
        calls();
        constants();
        maker();
        String source = Files.readString(Path.of("src/main/java/HallDesk.java"));
        words(source);
        library(source);
        space();
        due.end("FaceTest");
    }
}
