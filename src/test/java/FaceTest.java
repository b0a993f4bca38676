import java.io.IOException;
import java.lang.reflect.Field;
import java.lang.reflect.Method;
import java.lang.reflect.Modifier;
import java.nio.file.Files;
import java.nio.file.Path;
import java.util.ArrayList;
import java.util.Arrays;
import java.util.List;
import java.util.TreeSet;
import java.util.regex.Matcher;
import java.util.regex.Pattern;

/** The public face, the rules of LANGUAGE.md that can be read off the source, and calls with any numbers. */
public final class FaceTest {
    private static final Check check = new Check("FaceTest");
    private static final String FACE = "again() back(int) bridge(int) clock(int) decode(int) depth(int) differs(int)"
        + " finding(int,int) findings(int) finish(int) keep(int) limit(int) log(int,int) register(int,int,int) reset()"
        + " result(int,int) slave(int,int,int,boolean) status() told(int) transfer(int,boolean,int,int,int)"
        + " turn(int,int,int) under(int) value(int) wire(int)";
    private static final int[] NUMBERS = {
        0, 1, 2, 3, 4, 5, 6, 7, 8, 12, 14, 15, 16, 28, 47, 48, 60, 61, 64, 99, 100, 101, 199, 200, 500, 501, 2000, 2001,
        65532, 65535, 65536, -1, -2, -4, Integer.MAX_VALUE, Integer.MIN_VALUE, Integer.MAX_VALUE - 3, 1 << 30
    };

    public static void main(String[] args) throws IOException {
        members();
        source();
        anyNumbers();
        allFull();
        room();
        check.close();
    }

    private static void holds(String what, boolean is) {
        check.due(what, is ? 1 : 0, 1);
    }

    private static void members() {
        TreeSet<String> open = new TreeSet<>();
        for (Method m : BusBridge.class.getDeclaredMethods()) {
            if (Modifier.isPrivate(m.getModifiers())) {
                continue;
            }
            List<String> types = new ArrayList<>();
            for (Class<?> type : m.getParameterTypes()) {
                types.add(type.getSimpleName());
            }
            open.add(m.getName() + "(" + String.join(",", types) + ")");
            holds(m.getName() + " answers an int", m.getReturnType() == int.class);
            holds(m.getName() + " is public", Modifier.isPublic(m.getModifiers()));
        }
        holds("the methods are those of the document: " + open, String.join(" ", open).equals(FACE));
        int constants = 0;
        for (Field f : BusBridge.class.getDeclaredFields()) {
            if (!Modifier.isPrivate(f.getModifiers())) {
                constants++;
                holds(f.getName() + " is a constant",
                    Modifier.isPublic(f.getModifiers()) && Modifier.isStatic(f.getModifiers())
                    && Modifier.isFinal(f.getModifiers()) && f.getType() == int.class);
            }
        }
        check.due("how many constants", constants, 6);
        int[] told = {BusBridge.UNKNOWN, BusBridge.OUTSIDE, BusBridge.STATE, BusBridge.FULL, BusBridge.NO, BusBridge.NONE};
        for (int i = 0; i < told.length; i++) {
            check.due("constant " + i, told[i], -1 - i);
        }
        holds("the class is final", Modifier.isFinal(BusBridge.class.getModifiers()));
        holds("twelve classes at most", BusBridge.class.getDeclaredClasses().length <= 11);
        for (Class<?> inside : BusBridge.class.getDeclaredClasses()) {
            holds(inside + " is static", Modifier.isStatic(inside.getModifiers()));
            long fields = Arrays.stream(inside.getDeclaredFields()).filter(f -> !Modifier.isStatic(f.getModifiers())).count();
            holds(inside + " has twenty fields at most", fields <= 20);
            for (Method m : inside.getDeclaredMethods()) {
                holds(inside + "." + m.getName() + " bears no public name", !(" " + FACE).contains(" " + m.getName() + "("));
                holds(inside + "." + m.getName() + " takes seven parameters at most", m.getParameterCount() <= 7);
            }
        }
    }

    private static void source() throws IOException {
        String text = Files.readString(Path.of("src/main/java/BusBridge.java"));
        String code = text.replaceAll("(?s)/\\*.*?\\*/", "").replaceAll("//[^\n]*", "");
        String[] forbidden = {
            "throw", "throws", "try", "catch", "synchronized", "assert", "package", "protected", "interface\\s*@",
            "equals", "hashCode", "toString", "System\\s*\\.\\s*(?!arraycopy)", "Exact", "Thread", "Random", "->", "::"
        };
        for (String word : forbidden) {
            Matcher m = Pattern.compile(Character.isLetter(word.charAt(0)) ? "\\b" + word : word).matcher(code);
            holds("the source has no " + word, !m.find());
        }
        Matcher imports = Pattern.compile("import ([^;]*);").matcher(code);
        while (imports.find()) {
            holds("import of " + imports.group(1), imports.group(1).equals("java.util.Arrays"));
        }
        holds("the source is plain ASCII", text.chars().allMatch(c -> c < 128));
        int depth = 0;
        int since = 0;
        String[] lines = code.split("\n");
        for (int i = 0; i < lines.length; i++) {
            if (lines[i].matches("    (    )?\\S.*\\) \\{")) {
                since = i;
            }
            depth = Math.max(depth, lines[i].matches("    (    )?\\}") ? i - since : 0);
            holds("line " + (i + 1) + " has 120 characters at most", lines[i].length() <= 120);
            if (lines[i].matches("    \\}")) {
                since = i;
            }
        }
        holds("methods of sixty lines at most, the longest has " + depth, depth <= 60);
    }

    /** What the Java machine throws in a call ends this test. */
    private static void anyNumbers() {
        for (int shift = 0; shift < NUMBERS.length; shift++) {
            BusBridge x = new BusBridge();
            x.slave(0, 60, 1, false);
            x.slave(64, 64, 0, true);
            x.register(0, 4, 1);
            x.depth(shift % 5);
            for (int i = 0; i < NUMBERS.length - 4; i++) {
                int a = NUMBERS[i];
                int b = NUMBERS[(i + shift) % NUMBERS.length];
                int c = NUMBERS[(i * 3 + shift) % NUMBERS.length];
                x.slave(a, b, c, false);
                x.register(a, b, c);
                x.transfer(a, c > 5, b, c, b);
                x.transfer(i * 4, i % 2 == 0, b, 2 + i % 2, i % 8);
                x.turn(i % 15, b, 1 + shift);
                if (i % 4 == 3) {
                    x.clock(3);
                }
                ask(x, a, b);
            }
            check.due("status() behind it", x.status(), x.status());
        }
    }

    private static void ask(BusBridge x, int a, int b) {
        int[] answers = {x.result(a, b), x.log(a, b), x.finding(a, b), x.keep(a), x.differs(b), x.again()};
        check.due("answers", answers.length, 6);
        if (a % 2 == 0) {
            x.wire(a);
            x.under(b);
            x.value(a);
            x.back(b);
        } else {
            x.findings(a);
            x.decode(b);
            x.bridge(a);
            x.told(b);
        }
    }

    /** Eight SLAVES, 48 REGISTERS, 60 TRANSFERS, four POSTED, and more ACTS and FINDINGS than are kept. */
    private static void allFull() {
        BusBridge x = new BusBridge();
        for (int s = 0; s < 8; s++) {
            x.slave(s * 32, s * 32 + 28, s == 3 ? 15 : 0, false);
        }
        for (int r = 0; r < 48; r++) {
            x.register(r * 4, r % 7, 0);
        }
        x.depth(4);
        for (int t = 0; t < 60; t++) {
            x.transfer(t * 4, t % 5 != 0, t, 2, 0);
        }
        x.transfer(0, false, 0, 2, 0);
        x.keep(0);
        check.due("differs(0)", x.differs(0), BusBridge.NONE);
        for (int i = 0; i < 8; i++) {
            x.turn(2, 2, 100);
            x.turn(8, 3, 50);
            x.clock(99);
        }
        x.finish(2000);
        check.due("told(0)", x.told(0), 8);
        check.due("told(1)", x.told(1), 48);
        check.due("told(5)", x.told(5), 200);
        check.due("told(6)", x.told(6), 60);
        check.due("again()", x.again(), BusBridge.FULL);
        check.due("back(0)", x.back(0), 0);
        check.due("differs(0)", x.differs(0), BusBridge.NONE);
        check.due("finish(2000) < 2000", x.finish(2000) < 2000 ? 1 : 0, 1);
        check.due("again()", x.again(), BusBridge.NONE);
        check.due("told(3) and told(4)", x.told(3) + x.told(4), 60);
    }

    /** The room of a run is counted in fields and elements: calls make nothing but what is kept. */
    private static void room() {
        com.sun.management.ThreadMXBean meter =
            (com.sun.management.ThreadMXBean) java.lang.management.ManagementFactory.getThreadMXBean();
        long before = meter.getThreadAllocatedBytes(Thread.currentThread().getId());
        BusBridge x = new BusBridge();
        x.slave(0, 60, 1, false);
        x.register(0, 4, 1);
        for (int i = 0; i < 50; i++) {
            x.transfer(0, i % 2 == 0, i, 2, 0);
        }
        for (int i = 0; i < 40; i++) {
            x.turn(2, 2, 100);
            x.clock(50);
            x.keep(i % 3);
            x.again();
            x.differs(i % 3);
            x.back((i + 1) % 3);
            x.finish(100);
            x.findings(0);
        }
        long bytes = meter.getThreadAllocatedBytes(Thread.currentThread().getId()) - before;
        holds("an object and what it keeps is below 60,000 bytes, it has " + bytes, bytes < 60_000);
    }
}
