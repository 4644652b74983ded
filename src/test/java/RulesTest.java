import java.io.IOException;
import java.lang.reflect.Constructor;
import java.lang.reflect.Field;
import java.lang.reflect.Method;
import java.lang.reflect.Modifier;
import java.nio.file.Files;
import java.nio.file.Path;
import java.util.ArrayList;
import java.util.Arrays;
import java.util.List;
import java.util.Set;
import java.util.TreeSet;
import java.util.regex.Matcher;
import java.util.regex.Pattern;

/** Those rules of LANGUAGE.md, and of the document's face, that a program can look at. */
public final class RulesTest {
    private static final String FACE = "house:int() door:int(int,int,int) alarm:int(int,int,int) type:int(int) clear:int() read:int() "
        + "waits:int(int) walk:int(int) take:int(int,int) battery:int(int,int) cold:int(int) undo:int() of:int(int,int) far:int(int,int) "
        + "beeps:int(int,int) heard:int(int,int) through:int(int,int) next:int(int,int) coldest:int(int) sure:int(int,int) way:int(int) "
        + "two:int(int,int) beside:int() note:int(int,int) forget:int() which:int() stand:int() is:int(int,int,int) "
        + "missed:int(int,int,int) nights:int(int,int) part:long(int) image:int(int) from:int(int) status:int(int) count:int(int) "
        + "digest:long()";
    private static int wrong = 0;

    public static void main(String[] args) throws IOException {
        String source = Files.readString(Path.of("src/main/java/BeepHouse.java"));
        String code = withoutTexts(source);
        face();
        nested();
        words(code);
        methods(code);
        signs(source);
        madeByCalls();
        System.out.println(wrong == 0 ? "RulesTest: all rules kept" : "RulesTest: " + wrong + " rules broken");
        if (wrong != 0) {
            System.exit(1);
        }
    }

    private static void rule(int number, boolean kept, String what) {
        if (!kept) {
            wrong++;
            System.out.println("rule " + number + ": " + what);
        }
    }

    /** Comments, texts and signs in quotes become blanks, so that only code is looked at. */
    private static String withoutTexts(String source) {
        Matcher m = Pattern.compile("/\\*.*?\\*/|//[^\n]*|\"(?:[^\"\\\\]|\\\\.)*\"|'(?:[^'\\\\]|\\\\.)'", Pattern.DOTALL).matcher(source);
        return m.replaceAll(r -> r.group().replaceAll("[^\n]", " "));
    }

    private static void face() {
        Class<?> c = BeepHouse.class;
        rule(1, Modifier.isPublic(c.getModifiers()) && Modifier.isFinal(c.getModifiers()), "the class is public and final");
        Constructor<?>[] makers = c.getDeclaredConstructors();
        rule(1, makers.length == 1 && makers[0].getParameterCount() == 0 && Modifier.isPublic(makers[0].getModifiers()), "the constructor");
        Set<String> open = new TreeSet<>();
        Set<String> hidden = new TreeSet<>();
        for (Method m : c.getDeclaredMethods()) {
            List<String> types = new ArrayList<>();
            for (Class<?> t : m.getParameterTypes()) {
                types.add(t.getName());
            }
            if (Modifier.isPrivate(m.getModifiers())) {
                hidden.add(m.getName());
            } else {
                rule(1, Modifier.isPublic(m.getModifiers()) && !Modifier.isStatic(m.getModifiers()), m + " is not of the face");
                open.add(m.getName() + ":" + m.getReturnType().getName() + "(" + String.join(",", types) + ")");
            }
        }
        rule(1, open.equals(new TreeSet<>(Arrays.asList(FACE.split(" ")))), "the methods are " + open);
        for (String one : open) {
            rule(1, !hidden.contains(one.substring(0, one.indexOf(':'))), "a private method is named as " + one);
        }
        Set<String> constants = new TreeSet<>();
        for (Field f : c.getDeclaredFields()) {
            if (!Modifier.isPrivate(f.getModifiers())) {
                constants.add(f.getName());
                rule(1, f.getType() == int.class && Modifier.isStatic(f.getModifiers()) && Modifier.isFinal(f.getModifiers()), f.toString());
            }
        }
        rule(1, constants.equals(Set.of("NONE", "BAD", "NO", "FULL")), "the constants are " + constants);
    }

    private static void nested() {
        Class<?>[] inside = BeepHouse.class.getDeclaredClasses();
        rule(11, inside.length <= 12, "some twelve classes, not " + inside.length);
        List<Class<?>> all = new ArrayList<>(Arrays.asList(inside));
        all.add(BeepHouse.class);
        Set<String> faceNames = new TreeSet<>();
        for (String one : FACE.split(" ")) {
            faceNames.add(one.substring(0, one.indexOf(':')));
        }
        for (Class<?> c : all) {
            int own = 0;
            for (Field f : c.getDeclaredFields()) {
                boolean isStatic = Modifier.isStatic(f.getModifiers());
                own += isStatic ? 0 : 1;
                boolean plain = Set.of(int.class, long.class, boolean.class, char.class, String.class,
                    int[].class, long[].class, char[].class, byte[].class).contains(f.getType());
                rule(5, !isStatic || Modifier.isFinal(f.getModifiers()) && plain, f.toString());
            }
            rule(11, own <= 20, c + " has " + own + " fields");
            for (Method m : c.getDeclaredMethods()) {
                rule(11, m.getParameterCount() <= 7, m.toString());
                rule(1, c == BeepHouse.class || !faceNames.contains(m.getName()), m + " is named as one of the face");
            }
            if (c != BeepHouse.class) {
                boolean shut = !Modifier.isPublic(c.getModifiers()) && !Modifier.isProtected(c.getModifiers());
                rule(1, shut && Modifier.isStatic(c.getModifiers()), c.toString());
                rule(1, c.getDeclaredClasses().length == 0, c + " has classes inside");
            }
        }
    }

    private static void words(String code) {
        String[] none = {"throw", "throws", "try", "catch", "finally", "synchronized", "assert", "import", "package", "var", "native",
            "volatile", "transient", "System\\s*\\.\\s*(?!arraycopy)", "Math\\s*\\.\\s*\\w*Exact", "Thread", "Object", "hashCode", "toString", "Override"};
        for (String w : none) {
            rule(6, !Pattern.compile("\\b" + w + (w.endsWith(")") ? "" : "\\b")).matcher(code).find(), "the word " + w);
        }
        for (String sign : new String[] {"->", "::", "@"}) {
            rule(2, !code.contains(sign), "the sign " + sign);
        }
        rule(5, !Pattern.compile("\\bstatic\\s*\\{").matcher(code).find(), "a static block");
        Set<String> called = new TreeSet<>();
        Matcher m = Pattern.compile("\\b(Math|Integer|Long|System|Arrays|List|String)\\s*\\.\\s*(\\w+)").matcher(code);
        while (m.find()) {
            called.add(m.group(1) + "." + m.group(2));
        }
        called.removeAll(Set.of("Math.min", "Math.max", "Integer.bitCount", "System.arraycopy"));
        rule(4, called.isEmpty(), "the library has no " + called);
    }

    private static void methods(String code) {
        String[] lines = code.split("\n");
        Pattern head = Pattern.compile("^( {4}| {8})(?:(?:public|private|static|final) )*[\\w\\[\\]]+(?: \\w+)?\\([^)]*\\) \\{\\s*$");
        for (int i = 0; i < lines.length; i++) {
            Matcher m = head.matcher(lines[i]);
            if (m.matches()) {
                int end = i;
                while (end < lines.length && !lines[end].startsWith(m.group(1) + "}")) {
                    end++;
                }
                rule(11, end - i <= 60, "the method at line " + (i + 1) + " has " + (end - i) + " lines");
            }
        }
    }

    private static void signs(String source) {
        for (int i = 0; i < source.length(); i++) {
            char c = source.charAt(i);
            rule(4, c == '\n' || c >= 32 && c < 127, "the sign " + (int) c + " at " + i);
        }
    }

    /** All rows are made in the constructor, so calls make nothing at all. */
    private static void madeByCalls() {
        com.sun.management.ThreadMXBean bean =
            (com.sun.management.ThreadMXBean) java.lang.management.ManagementFactory.getThreadMXBean();
        long id = Thread.currentThread().getId();
        everyCall(new BeepHouse());
        bean.getThreadAllocatedBytes(id);
        BeepHouse x = new BeepHouse();
        long before = bean.getThreadAllocatedBytes(id);
        long answers = everyCall(x);
        long made = bean.getThreadAllocatedBytes(id) - before;
        // The bean itself may make a little; four hundred calls that each made one object would make more.
        rule(12, made < 2000, "the calls made " + made + " bytes");
        rule(13, answers == everyCall(new BeepHouse()), "the same calls give the same answers");
    }

    private static final String TELLS = "house 4;door 0 1 5;door 1 2 4;alarm 0 2 22;alarm 3 1 9;alarm 2 0 3;down 1;";

    private static long everyCall(BeepHouse x) {
        long h = x.house();
        for (int i = 0; i < TELLS.length(); i++) {
            h = 31 * h + x.type(TELLS.charAt(i));
        }
        h = 31 * h + x.read();
        for (int i = 0; i < 9; i++) {
            h = 31 * h + x.door(i, i + 1, i) + x.alarm(i, i, i) + x.waits(i) + x.walk(i) + x.take(i, 1) + x.battery(i, i) + x.cold(i);
            h = 31 * h + x.undo() + x.of(i, i) + x.far(i, 1) + x.beeps(i, i) + x.heard(i, i) + x.through(0, i) + x.next(i, i % 3);
            h = 31 * h + x.coldest(i) + x.sure(7 * i, i % 2) + x.way(i - 2) + x.two(i, 3) + x.beside() + x.note(i, i) + x.which();
            h = 31 * h + x.stand() + x.forget() + x.is(i, i, 1) + x.missed(i, i, i) + x.nights(i, 60) + x.part(i) + x.image(i);
            h = 31 * h + x.from(i) + x.status(i) + x.count(i) + x.digest();
        }
        return 31 * h + x.clear();
    }
}
