import java.io.IOException;
import java.lang.management.ManagementFactory;
import java.lang.reflect.Constructor;
import java.lang.reflect.Field;
import java.lang.reflect.Method;
import java.lang.reflect.Modifier;
import java.nio.file.Files;
import java.nio.file.Path;
import java.util.ArrayList;
import java.util.Arrays;
import java.util.List;
import java.util.Set;
import java.util.TreeSet;
import java.util.regex.Matcher;
import java.util.regex.Pattern;

/** The public face, the rules of LANGUAGE.md that can be looked up in the class, and the room that calls take. */
public final class FaceAndRules {
    private static final Due DUE = new Due();
    private static final String[] CALLS = {
        "int field(int,int)", "int claim(int,int,int)", "int of(int,int)", "int at(int,int)", "int type(int)",
        "int valley()", "int count(int)", "int days(int)", "int carry(int)", "int lettuce(int,int)", "int lay(int,int)",
        "int undo()", "int seed(int)", "int chance(int,int,int)", "int likely(int)", "long mean(int,int)",
        "int right(int,int,int)", "int sure(int)", "long down(int,int)", "int keep(int,int)", "int early(int,int)",
        "int next(int)", "int winter(int,int,int,int)", "int image()", "int restore()",
        "int seen(int,int,int,int,int)", "int bore(int,int,int,int,int,int)", "int film(int,int,int,int)",
        "int sheet(int,int,int)", "int drop(int)", "int item(int,int,int,long)", "int copy(int,int,int,int,int)",
    };
    private static final String[] CONSTANTS = {"BAD", "NOT", "FULL", "NONE", "NULL", "CAST", "INDEX", "SIZE"};
    private static final int[] VALUES = {-1, -2, -3, -4, -11, -12, -13, -14};

    public static void main(String[] args) throws ReflectiveOperationException, IOException {
        theFace();
        theConstants();
        classesInside();
        membersOf(DeedTortoise.class);
        for (Class<?> inside : DeedTortoise.class.getDeclaredClasses()) {
            membersOf(inside);
        }
        theSource();
        theLibrary();
        theRoom();
        DUE.end();
    }

    private static String face(Method m) {
        StringBuilder s = new StringBuilder(m.getReturnType().getName()).append(' ').append(m.getName()).append('(');
        for (Class<?> p : m.getParameterTypes()) {
            s.append(s.charAt(s.length() - 1) == '(' ? "" : ",").append(p.getName());
        }
        return s.append(')').toString();
    }

    private static void theFace() throws ReflectiveOperationException {
        DUE.isTrue("a public final class", Modifier.isPublic(DeedTortoise.class.getModifiers())
            && Modifier.isFinal(DeedTortoise.class.getModifiers()) && DeedTortoise.class.getSuperclass() == Object.class);
        Set<String> open = new TreeSet<>();
        Set<String> closed = new TreeSet<>();
        for (Method m : DeedTortoise.class.getDeclaredMethods()) {
            if (Modifier.isPrivate(m.getModifiers())) {
                closed.add(m.getName());
            } else {
                open.add(face(m));
                DUE.isTrue(m + " is public and no static one", m.getModifiers() == Modifier.PUBLIC);
            }
        }
        DUE.isTrue("the calls: " + open, open.equals(new TreeSet<>(Arrays.asList(CALLS))));
        for (String call : CALLS) {
            String name = call.substring(call.indexOf(' ') + 1, call.indexOf('('));
            DUE.isTrue("no private method bears the name of " + name, !closed.contains(name));
        }
        Constructor<?>[] constructors = DeedTortoise.class.getDeclaredConstructors();
        DUE.is("constructors", constructors.length, 1);
        DUE.isTrue("a public constructor without numbers",
            constructors[0].getModifiers() == Modifier.PUBLIC && constructors[0].getParameterCount() == 0);
    }

    private static void theConstants() throws ReflectiveOperationException {
        int open = 0;
        for (Field f : DeedTortoise.class.getDeclaredFields()) {
            int m = f.getModifiers();
            open += Modifier.isPrivate(m) ? 0 : 1;
            DUE.isTrue(f + ": static ones are final", !Modifier.isStatic(m) || Modifier.isFinal(m));
        }
        DUE.is("open fields", open, CONSTANTS.length);
        for (int k = 0; k < CONSTANTS.length; k++) {
            Field f = DeedTortoise.class.getField(CONSTANTS[k]);
            DUE.isTrue(CONSTANTS[k] + " is an int for good",
                f.getType() == int.class && f.getModifiers() == (Modifier.PUBLIC | Modifier.STATIC | Modifier.FINAL));
            DUE.is(CONSTANTS[k], f.getInt(null), VALUES[k]);
        }
    }

    private static void classesInside() {
        Class<?>[] classes = DeedTortoise.class.getDeclaredClasses();
        DUE.isTrue("some twelve classes", classes.length < 12);
        for (Class<?> c : classes) {
            int m = c.getModifiers();
            DUE.isTrue(c + " is static, and not open", Modifier.isStatic(m) && !Modifier.isPublic(m) && !Modifier.isProtected(m));
            for (Field f : c.getDeclaredFields()) {
                DUE.isTrue(f + ": static ones are final", !Modifier.isStatic(f.getModifiers()) || Modifier.isFinal(f.getModifiers()));
            }
        }
    }

    /** Types, static fields, numbers of fields and of what a method takes: rules 1, 3, 5 and 11. */
    private static void membersOf(Class<?> c) {
        int own = 0;
        for (Field f : c.getDeclaredFields()) {
            own += Modifier.isStatic(f.getModifiers()) ? 0 : 1;
            Class<?> type = f.getType();
            boolean isRow = type.isArray() && !type.getComponentType().isArray();
            Class<?> part = isRow ? type.getComponentType() : type;
            DUE.isTrue(f + " is of a type of the rules", part.isPrimitive() || part.getEnclosingClass() == DeedTortoise.class);
            DUE.isTrue(f + " is a number, if it is static", !Modifier.isStatic(f.getModifiers()) || type.isPrimitive());
        }
        DUE.isTrue(c + " has some twenty fields", own <= 20);
        for (Method m : c.getDeclaredMethods()) {
            DUE.isTrue(m + " takes seven at most", m.getParameterCount() <= 7);
            boolean isFace = Arrays.stream(CALLS).anyMatch(call -> call.contains(" " + m.getName() + "("));
            DUE.isTrue(m + " has a name of its own", !isFace || Modifier.isPublic(m.getModifiers()));
        }
    }

    /** What the rules forbid, and throw and catch: the document names no exception. */
    private static final String[] RULED_OUT = {
        "\\bimport\\b", "\\bpackage\\b", "\\bcatch\\b", "\\btry\\b", "\\bthrows?\\b", "\\bfinally\\b", "\\bsynchronized\\b",
        "\\bassert\\b", "::", "Exact\\b", "static \\{", "\\bSystem\\.(?!arraycopy)", "\\bwhile \\(true\\)",
    };

    private static void theSource() throws IOException {
        List<String> code = new ArrayList<>();
        for (String line : Files.readAllLines(Path.of("src/main/java/DeedTortoise.java"))) {
            String left = line.replaceAll("//.*|/\\*\\*.*\\*/", "");
            code.add(left);
            DUE.isTrue("plain signs: " + line, line.chars().allMatch(c -> c >= 32 && c <= 126));
        }
        String all = String.join("\n", code);
        for (String word : RULED_OUT) {
            DUE.isTrue("the source is without " + word, !Pattern.compile(word).matcher(all).find());
        }
        int start = -1;
        for (int k = 0; k < code.size(); k++) {
            if (code.get(k).matches("( {4}){1,2}\\S.*\\) \\{")) {
                start = k;
            } else if (start >= 0 && code.get(k).matches("( {4}){1,2}\\}")) {
                DUE.isTrue("a short method: " + code.get(start), k - start < 60);
                start = -1;
            }
        }
    }

    /** What is named behind a class's name and a dot: of the library, which rule 4 lists, these alone. */
    private static void theLibrary() throws IOException {
        Set<String> used = new TreeSet<>();
        String source = Files.readString(Path.of("src/main/java/DeedTortoise.java"));
        Matcher m = Pattern.compile("\\b[A-Z]\\w*\\.\\w+").matcher(source);
        while (m.find()) {
            used.add(m.group());
        }
        DUE.isTrue("of the library: " + used, used.equals(Set.of("Math.max", "Math.min", "System.arraycopy")));
        DUE.isTrue("no texts", !source.contains("\""));
    }

    /** New objects come from the constructor alone: the calls make nothing. */
    private static void theRoom() {
        com.sun.management.ThreadMXBean counter = (com.sun.management.ThreadMXBean) ManagementFactory.getThreadMXBean();
        if (!counter.isThreadAllocatedMemorySupported() || !counter.isThreadAllocatedMemoryEnabled()) {
            System.out.println("the room is not counted here");
            return;
        }
        long id = Thread.currentThread().getId();
        dearCalls(new DeedTortoise());
        long ahead = counter.getThreadAllocatedBytes(id);
        DeedTortoise x = new DeedTortoise();
        long made = counter.getThreadAllocatedBytes(id);
        dearCalls(x);
        long behind = counter.getThreadAllocatedBytes(id);
        DUE.isTrue("an object takes " + (made - ahead) + " bytes", made - ahead < 20000);
        DUE.isTrue("its calls take " + (behind - made) + " bytes", behind - made < 20000);
    }

    private static void dearCalls(DeedTortoise x) {
        x.sheet(0, 3, 24);
        for (int k = 0; k < 30; k++) {
            x.days(40);
            x.carry(k % 7);
            x.image();
            x.down(6, 0);
            x.keep(9, 100);
            x.early(6, 100);
            x.film(24, 0, 3, 0);
            x.bore(0, 0, 3, 0, 8, 1);
            x.seen(0, 3, 0, 8, 2);
            x.copy(0, 0, 0, 1, 20);
            x.type('0');
            x.type(':');
            x.valley();
            x.sheet(1, 0, 24);
            x.restore();
        }
    }
}
