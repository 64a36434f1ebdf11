import java.io.IOException;
import java.lang.reflect.Field;
import java.lang.reflect.Method;
import java.lang.reflect.Modifier;
import java.nio.file.Files;
import java.nio.file.Path;
import java.util.Set;
import java.util.TreeSet;
import java.util.regex.Matcher;
import java.util.regex.Pattern;

/** The document's public face, and the rules of LANGUAGE.md that can be read off class and text. */
public final class RulesTest {
    private static final String[] FACE = {
        "int type(int,int)", "int wipe(int)", "int undo(int)", "int fault(int)", "int felon(int,int)", "int name(int)",
        "int set(int,int)", "int comes(int,int)", "int behind(int,int)", "long alive(int,int)", "long lives(int)",
        "long harm(int)", "int worst()", "int fate(int)", "int order(int)", "long best(int)", "int price()",
        "int rule(int)", "int chain(int)", "int seen(int,int)", "int forget()", "int read(int)", "int bribes()",
        "int kinds(int)", "int ask()", "int gaols(int,int,int)", "int sheet(int,int,int)", "int lose(int)",
        "int lay(int,int,int,int)", "int get(int,int,int)", "int copy(int,int,int,int,int)", "int write(int)",
        "int count(int)", "long digest()",
    };
    private static int wrong = 0;

    private static void fail(String told) {
        wrong++;
        System.out.println(told);
    }

    private static String told(Method method) {
        StringBuilder text = new StringBuilder(method.getReturnType().getName()).append(' ');
        text.append(method.getName()).append('(');
        for (int i = 0; i < method.getParameterCount(); i++) {
            text.append(i == 0 ? "" : ",").append(method.getParameterTypes()[i].getName());
        }
        return text.append(')').toString();
    }

    private static void checkFace() {
        Set<String> wanted = new TreeSet<>(Set.of(FACE));
        Set<String> names = new TreeSet<>();
        Set<String> found = new TreeSet<>();
        for (Method method : ApproverWins.class.getDeclaredMethods()) {
            if (Modifier.isPublic(method.getModifiers())) {
                found.add(told(method));
                names.add(method.getName());
            } else if (!Modifier.isPrivate(method.getModifiers())) {
                fail("neither public nor private: " + told(method));
            }
        }
        if (!found.equals(wanted)) {
            fail("the face is " + found + ", due is " + wanted);
        }
        checkPrivateNames(ApproverWins.class, names);
        for (Class<?> inside : ApproverWins.class.getDeclaredClasses()) {
            checkInside(inside, names);
        }
        if (!Modifier.isFinal(ApproverWins.class.getModifiers()) || ApproverWins.class.getConstructors().length != 1) {
            fail("the class is final, with one public constructor");
        }
    }

    private static void checkPrivateNames(Class<?> any, Set<String> names) {
        for (Method method : any.getDeclaredMethods()) {
            boolean isOfFace = any == ApproverWins.class && Modifier.isPublic(method.getModifiers());
            if (!isOfFace && names.contains(method.getName())) {
                fail("bears a public method's name: " + any.getName() + "." + method.getName());
            }
            if (method.getParameterCount() > 7) {
                fail("more than seven parameters: " + method.getName());
            }
        }
    }

    private static void checkInside(Class<?> inside, Set<String> names) {
        checkPrivateNames(inside, names);
        if (!Modifier.isStatic(inside.getModifiers()) || Modifier.isPublic(inside.getModifiers())) {
            fail("not static, or public: " + inside.getName());
        }
        checkFields(inside);
    }

    private static void checkFields(Class<?> any) {
        int fields = 0;
        for (Field field : any.getDeclaredFields()) {
            if (!Modifier.isStatic(field.getModifiers())) {
                fields++;
            } else if (!Modifier.isFinal(field.getModifiers())) {
                fail("static, not final: " + field);
            }
        }
        if (fields > 20) {
            fail("more than twenty fields: " + any.getName());
        }
    }

    private static void checkConstants() {
        checkFields(ApproverWins.class);
        Set<String> open = new TreeSet<>();
        for (Field field : ApproverWins.class.getDeclaredFields()) {
            if (!Modifier.isPrivate(field.getModifiers())) {
                open.add(field.getName());
            }
        }
        if (!open.equals(Set.of("NONE", "BAD", "NOT", "FULL"))) {
            fail("open fields are " + open);
        }
        int[] got = {ApproverWins.NONE, ApproverWins.BAD, ApproverWins.NOT, ApproverWins.FULL};
        for (int i = 0; i < got.length; i++) {
            if (got[i] != -1 - i) {
                fail("constant " + i + " is " + got[i]);
            }
        }
    }

    private static void checkText(String source) {
        String code = source.replaceAll("(?s)/\\*.*?\\*/", "").replaceAll("//[^\n]*", "");
        Matcher banned = Pattern.compile(
            "\\b(throw|throws|try|catch|synchronized|assert|import|package|double|float|Object|protected|native)\\b"
            + "|->|::|Exact\\(|MAX_VALUE|MIN_VALUE|static \\{").matcher(code);
        while (banned.find()) {
            fail("in the text: " + banned.group());
        }
        Matcher library = Pattern.compile("\\b(Math|Integer|Long|System|Arrays|String|StringBuilder)\\.(\\w+)").matcher(code);
        Set<String> allowed = Set.of("Math.max", "Math.min", "Integer.bitCount", "System.arraycopy");
        while (library.find()) {
            if (!allowed.contains(library.group())) {
                fail("of the library: " + library.group());
            }
        }
        Matcher classes = Pattern.compile("\\b(class|record|enum|interface) \\w+").matcher(code);
        int number = 0;
        while (classes.find()) {
            number++;
        }
        if (number > 12) {
            fail("more than twelve classes: " + number);
        }
        for (int i = 0; i < source.length(); i++) {
            if (source.charAt(i) > 126) {
                fail("not plain ASCII at " + i);
            }
        }
    }

    public static void main(String[] args) throws IOException {
        checkFace();
        checkConstants();
        checkText(Files.readString(Path.of("src/main/java/ApproverWins.java")));
        System.out.println(wrong == 0 ? "face and rules hold" : wrong + " rules are broken");
        if (wrong != 0) {
            System.exit(1);
        }
    }
}
