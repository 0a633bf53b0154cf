import java.io.IOException;
import java.lang.reflect.Constructor;
import java.lang.reflect.Field;
import java.lang.reflect.Method;
import java.lang.reflect.Modifier;
import java.nio.charset.StandardCharsets;
import java.nio.file.Files;
import java.nio.file.Path;
import java.util.Set;
import java.util.TreeSet;
import java.util.regex.Matcher;
import java.util.regex.Pattern;

/** The class's face, and those rules of LANGUAGE.md that can be seen in its members and its text. */
public final class LanguageTest {
    private static final Check CHECK = new Check();

    private static final String[] FACE = {
        "int calendar(int, int) throws IllegalArgumentException, IllegalStateException",
        "int setMonth(int, int, int) throws IndexOutOfBoundsException, IllegalArgumentException",
        "int leapMonth(int, int) throws IndexOutOfBoundsException, IllegalArgumentException",
        "int leaps(int, int, int, int) throws IndexOutOfBoundsException, IllegalArgumentException",
        "int moon(int) throws IllegalArgumentException",
        "int calendars()",
        "boolean isLeap(int, int) throws IndexOutOfBoundsException, IllegalArgumentException",
        "int ofYear(int, int, int) throws IndexOutOfBoundsException, IllegalArgumentException",
        "int length(int, int, int) throws IndexOutOfBoundsException, IllegalArgumentException",
        "int day(int, int, int, int) throws IndexOutOfBoundsException, IllegalArgumentException",
        "int date(int, int, int) throws IndexOutOfBoundsException, IllegalArgumentException",
        "int weekday(int) throws IllegalArgumentException",
        "int age(int) throws IllegalArgumentException",
        "int quarter(int, int) throws IllegalArgumentException",
        "int quarters(int, int, int) throws IllegalArgumentException",
        "double meanYear(int, int, int) throws IndexOutOfBoundsException, IllegalArgumentException",
        "int fixed(int, int, int) throws IndexOutOfBoundsException, IllegalArgumentException, IllegalStateException",
        "int nth(int, int, int, int) throws IndexOutOfBoundsException, IllegalArgumentException, "
            + "IllegalStateException",
        "int by(int, int, int) throws IndexOutOfBoundsException, IllegalArgumentException, IllegalStateException",
        "int shun(int, int) throws IndexOutOfBoundsException, IllegalArgumentException",
        "int feasts()",
        "int feast(int, int) throws IndexOutOfBoundsException, IllegalArgumentException",
        "int on(int) throws IllegalArgumentException",
        "int next(int, int) throws IllegalArgumentException",
        "int meetings(int, int) throws IllegalArgumentException",
        "int drift(int, int, int) throws IndexOutOfBoundsException, IllegalArgumentException",
        "int beginsWith(int, int, int, int, int) throws IndexOutOfBoundsException, IllegalArgumentException",
        "int wander(int, int, int) throws IndexOutOfBoundsException, IllegalArgumentException",
        "long digest()"};

    private static final String[] RULED_OUT = {
        "->", "::", "@", "synchronized", "assert ", "finally", "try ", "catch", "package ", "protected ",
        "import java.util.*", "Exact(", "equals(", "hashCode(", "toString(", "instanceof Object", "volatile ",
        "Random", "Thread", "System.", "java.io", "java.nio", "java.time", "Double.", "\" +", "+ \"", "\t"};

    public static void main(String[] args) throws IOException {
        face();
        membersHidden(AlmanacRoom.class);
        for (Class<?> inside : AlmanacRoom.class.getDeclaredClasses()) {
            classInside(inside);
        }
        int inside = AlmanacRoom.class.getDeclaredClasses().length;
        CHECK.is("twelve classes at the most", true, () -> inside < 12);
        text(Files.readString(Path.of(args.length > 0 ? args[0] : "src/main/java/AlmanacRoom.java"),
            StandardCharsets.ISO_8859_1));
        CHECK.end("LanguageTest");
    }

    private static void face() {
        Set<String> due = new TreeSet<>(Set.of(FACE));
        Set<String> got = new TreeSet<>();
        for (Method method : AlmanacRoom.class.getDeclaredMethods()) {
            if (Modifier.isPublic(method.getModifiers())) {
                got.add(toldMethod(method));
            }
        }
        CHECK.is("the face", due, () -> got);
        int modifiers = AlmanacRoom.class.getModifiers();
        CHECK.is("public and final", Modifier.PUBLIC | Modifier.FINAL, () -> modifiers);
        Constructor<?>[] constructors = AlmanacRoom.class.getDeclaredConstructors();
        CHECK.is("one constructor", 1, () -> constructors.length);
        CHECK.is("it is public", true, () -> Modifier.isPublic(constructors[0].getModifiers()));
        CHECK.is("it takes nothing", 0, () -> constructors[0].getParameterCount());
    }

    private static String toldMethod(Method method) {
        String told = method.getReturnType().getSimpleName() + " " + method.getName() + "(";
        told += names(method.getParameterTypes()) + ")";
        Class<?>[] thrown = method.getExceptionTypes();
        return thrown.length == 0 ? told : told + " throws " + names(thrown);
    }

    private static String names(Class<?>[] classes) {
        String told = "";
        for (Class<?> one : classes) {
            told += (told.isEmpty() ? "" : ", ") + one.getSimpleName();
        }
        return told;
    }

    private static void membersHidden(Class<?> of) {
        Set<String> open = new TreeSet<>();
        for (Method method : of.getDeclaredMethods()) {
            if (Modifier.isPublic(method.getModifiers())) {
                open.add(method.getName());
            }
        }
        for (Method method : of.getDeclaredMethods()) {
            boolean told = Modifier.isPublic(method.getModifiers());
            boolean hidden = Modifier.isPrivate(method.getModifiers()) && !open.contains(method.getName());
            CHECK.is("method " + method.getName() + " is open or hidden", true, () -> told || hidden);
        }
        for (Field field : of.getDeclaredFields()) {
            CHECK.is("field " + field.getName() + " is hidden", true, () -> Modifier.isPrivate(field.getModifiers()));
            staticFieldFinal(field);
        }
    }

    private static void staticFieldFinal(Field field) {
        int modifiers = field.getModifiers();
        boolean fine = !Modifier.isStatic(modifiers) || Modifier.isFinal(modifiers);
        CHECK.is("field " + field.getName() + " is no static state", true, () -> fine);
    }

    private static void classInside(Class<?> inside) {
        String name = inside.getSimpleName();
        int modifiers = inside.getModifiers();
        CHECK.is(name + " is static", true, () -> Modifier.isStatic(modifiers));
        CHECK.is(name + " is not open", false, () -> Modifier.isPublic(modifiers) || Modifier.isProtected(modifiers));
        for (Field field : inside.getDeclaredFields()) {
            staticFieldFinal(field);
        }
        for (Method method : inside.getDeclaredMethods()) {
            boolean open = false;
            for (Method of : AlmanacRoom.class.getMethods()) {
                open |= of.getDeclaringClass() == AlmanacRoom.class && of.getName().equals(method.getName());
            }
            boolean bears = open;
            CHECK.is(name + "." + method.getName() + " bears a name of the face", false, () -> bears);
        }
    }

    private static void text(String text) {
        for (String word : RULED_OUT) {
            CHECK.is("the text has " + word, false, () -> text.contains(word));
        }
        CHECK.is("all signs are of ASCII", true, () -> text.chars().allMatch(c -> c < 128));
        Matcher imports = Pattern.compile("(?m)^import (.*);").matcher(text);
        while (imports.find()) {
            String name = imports.group(1);
            CHECK.is("import " + name, "java.util.ArrayList", () -> name);
        }
        Matcher thrown = Pattern.compile("throw (.*);").matcher(text);
        Pattern fine = Pattern.compile("new (IllegalArgument|IllegalState|IndexOutOfBounds)Exception\\(.*\\)");
        while (thrown.find()) {
            String told = thrown.group(1);
            CHECK.is("throw " + told, true, () -> fine.matcher(told).matches());
        }
        methodsShort(text);
    }

    /** By the file's indentation: a method begins and ends with the same number of blanks, 4 or 8. */
    private static void methodsShort(String text) {
        for (String indent : new String[] {"    ", "        "}) {
            Matcher method = Pattern.compile("(?s)\n" + indent + "[^ /*][^\n=;]*\\([^;]*?\\{\n.*?\n" + indent + "}")
                .matcher(text);
            while (method.find()) {
                String whole = method.group();
                if (!whole.contains(" class ")) {
                    long lines = whole.lines().count() - 1;
                    CHECK.is(whole.lines().skip(1).findFirst().orElse("") + " is short", true, () -> lines <= 60);
                }
            }
        }
    }
}
