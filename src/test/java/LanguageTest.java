import java.io.IOException;
import java.lang.reflect.Constructor;
import java.lang.reflect.Field;
import java.lang.reflect.Method;
import java.lang.reflect.Modifier;
import java.nio.file.Files;
import java.nio.file.Path;
import java.util.ArrayList;
import java.util.Arrays;
import java.util.List;
import java.util.Set;
import java.util.TreeSet;
import java.util.regex.Matcher;
import java.util.regex.Pattern;

/** The rules of LANGUAGE.md that can be seen from the file's text and from the compiled class. */
public final class LanguageTest {
    private static final Due due = new Due();
    private static final Set<Class<?>> CONSTANTS = Set.of(int.class, long.class, boolean.class, char.class,
            String.class, int[].class, long[].class, char[].class, byte[].class);
    private static final Set<String> LIBRARY = Set.of("java/lang/Object.<init>()V", "java/lang/Math.max(II)I",
            "java/lang/Math.min(II)I", "java/lang/Math.abs(I)I", "java/lang/Integer.bitCount(I)I",
            "java/lang/String.indexOf(I)I", "java/lang/String.length()I",
            "java/lang/System.arraycopy(Ljava/lang/Object;ILjava/lang/Object;II)V");
    private static final Set<String> RULED_OUT = Set.of("athrow", "checkcast", "instanceof", "monitorenter",
            "monitorexit", "invokedynamic", "fadd", "dadd", "i2f", "i2d", "l2f", "l2d");
    private static final Set<String> MAKING = Set.of("new", "newarray", "anewarray", "multianewarray");
    /** These look at a divisor that is no constant, or have one that is above 0 by its own line. */
    private static final Set<String> DIVIDING = Set.of("PushedIn$Text.joined", "PushedIn$Survey.drawAbout");
    /** Guarded by the depth that they hand on: Acts.DEEPEST, Text.OPEN. */
    private static final Set<String> CALLING_THEMSELVES = Set.of("PushedIn$Acts.own", "PushedIn$Acts.above",
            "PushedIn$Acts.runFrom", "PushedIn$Acts.runBody", "PushedIn$Text.readEither", "PushedIn$Text.readBoth",
            "PushedIn$Text.readCompared", "PushedIn$Text.readSum", "PushedIn$Text.readProduct",
            "PushedIn$Text.readOperand");

    public static void main(String[] args) throws IOException {
        String source = Files.readString(Path.of("src/main/java/PushedIn.java"));
        String code = source.replaceAll("(?s)/\\*.*?\\*/", "").replaceAll("//[^\n]*", "");
        words(code);
        library(code);
        lengths(code);
        face();
        classes();
        due.end();
    }

    private static void words(String code) {
        String[] ruledOut = {
            "throw", "throws", "try", "catch", "finally", "synchronized", "assert", "import", "package", "native",
            "volatile", "transient", "double", "float", "Object", "Class", "Thread", "var", "yield", "protected",
            "equals", "hashCode", "toString", "getClass", "instanceof",
        };
        for (String word : ruledOut) {
            due.holds("no " + word, !Pattern.compile("\\b" + word + "\\b").matcher(code).find());
        }
        due.holds("no lambda", !code.contains("->"));
        due.holds("no method reference", !code.contains("::"));
        due.holds("no class without a name", !Pattern.compile("new \\w+\\([^;]*\\) \\{").matcher(code).find());
        due.holds("no block that begins a class", !Pattern.compile("\\bstatic \\{").matcher(code).find());
        due.holds("no annotation", !Pattern.compile("@[A-Z]").matcher(code).find());
        due.holds("plain signs alone", code.chars().allMatch(c -> c == '\n' || c >= 32 && c < 127));
    }

    private static void library(String code) {
        Set<String> allowed = Set.of("System.arraycopy", "Math.max", "Math.min", "Math.abs", "Integer.bitCount",
                "Long.MIN_VALUE", "Tape.END", "Text.NAMES", "NAMES.indexOf");
        Matcher m = Pattern.compile("\\b[A-Z][A-Za-z]*\\.\\w+").matcher(code);
        while (m.find()) {
            due.holds(m.group(), allowed.contains(m.group()));
        }
    }

    /** No method over sixty lines or seven parameters. */
    private static void lengths(String code) {
        Pattern head = Pattern.compile("^ +(?:public |private |static |final )*[\\w\\[\\]]+ ?\\w*\\(([^()]*)\\) \\{$");
        String[] lines = code.split("\n");
        int methods = 0;
        for (int i = 0; i < lines.length; i++) {
            Matcher m = head.matcher(lines[i]);
            if (m.matches() && !lines[i].matches(" +(if|for|while|switch) .*")) {
                methods++;
                String indent = lines[i].replaceAll("\\S.*", "");
                int end = i;
                while (!lines[end].equals(indent + "}")) {
                    end++;
                }
                due.holds("short: " + lines[i].trim(), end - i <= 60);
                due.holds("few parameters: " + lines[i].trim(), m.group(1).split(",").length <= 7);
            }
        }
        due.holds("methods were seen", methods > 100);
    }

    private static void face() {
        Set<String> wanted = new TreeSet<>(Arrays.asList(
                "int away(int,int)", "int matter(int,int,int)", "int yard(int,int)", "int feed(int,int)", "int comer()",
                "int comers(int,int,int)", "int of(int,int)", "int came(int,int)", "int cant(int)", "int passed(int,int)",
                "int pairs(int,int)", "int start(int,int)", "int judge(int,int)", "long whom(int)", "int fewest(long)",
                "int rule(int,int,int)", "int text()", "int next(int,int,int)", "int breaks(int,int,int)",
                "int kept(int)", "int find(int)", "int led(int)", "int changed(int,int)", "int idle(int,int)",
                "int seldom(int,int,int)", "int along(int,int,int)", "int stand(int,int)", "int undo()", "int redo()",
                "int act(int,int,int)", "int trace(int)", "int keep(int,int)", "int row(int,int,int)",
                "int put(int,int,long)", "long element(int,int)", "int shift(int,int,int,int,int)",
                "int taken(int,int)", "int count(int)"));
        Set<String> found = new TreeSet<>();
        for (Method m : PushedIn.class.getDeclaredMethods()) {
            if (Modifier.isPublic(m.getModifiers())) {
                due.holds(m.getName() + " is no static one", !Modifier.isStatic(m.getModifiers()));
                found.add(m.toGenericString().replaceAll("public |PushedIn\\.", ""));
            } else {
                due.holds(m.getName() + " is private", Modifier.isPrivate(m.getModifiers()));
            }
        }
        due.holds("the face is the document's: " + found, found.equals(wanted));
        Set<String> constants = new TreeSet<>();
        for (Field f : PushedIn.class.getDeclaredFields()) {
            if (Modifier.isPublic(f.getModifiers())) {
                due.holds(f.getName() + " is an int constant", f.getType() == int.class
                        && Modifier.isStatic(f.getModifiers()) && Modifier.isFinal(f.getModifiers()));
                constants.add(f.getName());
            } else {
                due.holds(f.getName() + " is private", Modifier.isPrivate(f.getModifiers()));
            }
        }
        due.holds("the constants are the document's", constants.equals(Set.of("BAD", "NOT", "FULL", "STATE", "VOID")));
        Constructor<?>[] made = PushedIn.class.getDeclaredConstructors();
        due.holds("one constructor", made.length == 1 && Modifier.isPublic(made[0].getModifiers()));
        due.holds("public and final", Modifier.isPublic(PushedIn.class.getModifiers())
                && Modifier.isFinal(PushedIn.class.getModifiers()));
    }

    private static void classes() {
        Set<String> names = Set.of(Calls.NAMES);
        List<Class<?>> all = new ArrayList<>(Arrays.asList(PushedIn.class.getDeclaredClasses()));
        for (Class<?> c : all) {
            due.holds(c + " is static and no one's face", Modifier.isStatic(c.getModifiers())
                    && !Modifier.isPublic(c.getModifiers()) && !Modifier.isProtected(c.getModifiers()));
            for (Method m : c.getDeclaredMethods()) {
                due.holds(c + " has no method of the face's name: " + m.getName(), !names.contains(m.getName()));
            }
        }
        all.add(PushedIn.class);
        due.holds("twelve classes at most", all.size() <= 12);
        for (Class<?> c : all) {
            fields(c);
        }
        if (Bytecode.canBeRead()) {
            bytecode(new Bytecode(all));
        }
    }

    private static void fields(Class<?> c) {
        int fields = 0;
        for (Field f : c.getDeclaredFields()) {
            if (Modifier.isStatic(f.getModifiers())) {
                due.holds(f + " is a constant", Modifier.isFinal(f.getModifiers()) && CONSTANTS.contains(f.getType()));
            } else {
                fields++;
                due.holds(f + " is of a type that may be", mayBe(f.getType()));
            }
        }
        due.holds(c + " has twenty fields at most", fields <= 20);
    }

    /** Numbers, own classes, arrays of these of one dimension, arrays of two dimensions of numbers. */
    private static boolean mayBe(Class<?> type) {
        Class<?> of = type.isArray() ? type.getComponentType() : type;
        boolean own = of == PushedIn.class || of.getDeclaringClass() == PushedIn.class;
        return own || of.isPrimitive() || of.isArray() && of.getComponentType().isPrimitive();
    }

    private static void bytecode(Bytecode code) {
        due.holds("the library's methods " + code.library, LIBRARY.containsAll(code.library));
        code.steps.forEach((method, steps) -> {
            boolean makes = method.endsWith(".<init>") || method.endsWith(".<clinit>");
            for (String step : steps) {
                due.holds(method + " has no " + step, !RULED_OUT.contains(step));
                due.holds(method + " makes nothing", makes || !MAKING.contains(step));
            }
            due.holds(method + " divides by what was looked at",
                    DIVIDING.contains(method) || dividesByConstants(steps));
            due.holds(method + " is eight calls deep at most", code.depth(method) <= 8);
        });
        due.holds("methods that call themselves " + code.thatCallThemselves(),
                code.thatCallThemselves().equals(CALLING_THEMSELVES));
    }

    private static boolean dividesByConstants(List<String> steps) {
        for (int i = 1; i < steps.size(); i++) {
            if (steps.get(i).matches("[il](div|rem)") && !steps.get(i - 1).matches("bipush|sipush|iconst_[1-5]")) {
                return false;
            }
        }
        return true;
    }
}
