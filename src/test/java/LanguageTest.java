import java.io.IOException;
import java.lang.reflect.Constructor;
import java.lang.reflect.Field;
import java.lang.reflect.Method;
import java.lang.reflect.Modifier;
import java.nio.charset.StandardCharsets;
import java.nio.file.Files;
import java.nio.file.Path;
import java.util.ArrayList;
import java.util.List;
import java.util.Set;
import java.util.TreeSet;
import java.util.regex.Matcher;
import java.util.regex.Pattern;

/** The class's face, and those rules of LANGUAGE.md that can be seen in its members and its text. */
public final class LanguageTest {
    private static final Check CHECK = new Check();

    private static final String[] FACE = {
        "int calendar(int, int) throws IllegalArgumentException, IllegalStateException",
        "int setMonth(int, int, int) throws IndexOutOfBoundsException, IllegalArgumentException",
        "int leapMonth(int, int) throws IndexOutOfBoundsException, IllegalArgumentException",
        "int leaps(int, int, int, int) throws IndexOutOfBoundsException, IllegalArgumentException",
        "int moon(int) throws IllegalArgumentException",
        "int calendars()",
        "boolean isLeap(int, int) throws IndexOutOfBoundsException, IllegalArgumentException",
        "int ofYear(int, int, int) throws IndexOutOfBoundsException, IllegalArgumentException",
        "int length(int, int, int) throws IndexOutOfBoundsException, IllegalArgumentException",
        "int day(int, int, int, int) throws IndexOutOfBoundsException, IllegalArgumentException",
        "int date(int, int, int) throws IndexOutOfBoundsException, IllegalArgumentException",
        "int weekday(int) throws IllegalArgumentException",
        "int age(int) throws IllegalArgumentException",
        "int quarter(int, int) throws IllegalArgumentException",
        "int quarters(int, int, int) throws IllegalArgumentException",
        "double meanYear(int, int, int) throws IndexOutOfBoundsException, IllegalArgumentException",
        "int fixed(int, int, int) throws IndexOutOfBoundsException, IllegalArgumentException, IllegalStateException",
        "int nth(int, int, int, int) throws IndexOutOfBoundsException, IllegalArgumentException, "
            + "IllegalStateException",
        "int by(int, int, int) throws IndexOutOfBoundsException, IllegalArgumentException, IllegalStateException",
        "int shun(int, int) throws IndexOutOfBoundsException, IllegalArgumentException",
        "int feasts()",
        "int feast(int, int) throws IndexOutOfBoundsException, IllegalArgumentException",
        "int on(int) throws IllegalArgumentException",
        "int next(int, int) throws IllegalArgumentException",
        "int meetings(int, int) throws IllegalArgumentException",
        "int drift(int, int, int) throws IndexOutOfBoundsException, IllegalArgumentException",
        "int beginsWith(int, int, int, int, int) throws IndexOutOfBoundsException, IllegalArgumentException",
        "int wander(int, int, int) throws IndexOutOfBoundsException, IllegalArgumentException",
        "long digest()"};

    private static final String[] RULED_OUT = {
        "->", "::", "@", "synchronized", "assert ", "finally", "try ", "catch", "package ", "protected ",
        "import java.util.*", "Exact(", "equals(", "hashCode(", "toString(", "instanceof Object", "volatile ",
        "Random", "Thread", "System.", "java.io", "java.nio", "java.time", "Double.", "MAX_VALUE", "MIN_VALUE",
        "\" +", "+ \"", "\t"};

    /** A text or a sign as Java writes them, so that what stands in one is not taken for code. */
    private static final String WRITTEN = "\"(?:[^\"\\\\\n]|\\\\.)*\"|'(?:[^'\\\\\n]|\\\\.)*'";

    /** Of the exceptions of rule 6 those that the document names: nothing is caught, so all reach the caller. */
    private static final Pattern FINE_THROW = Pattern.compile(
        "throw\\s+new\\s+(?:IllegalArgument|IllegalState|IndexOutOfBounds)Exception\\s*"
            + "\\(\\s*(?:\"(?:[^\"\\\\\n]|\\\\.)*\")?\\s*\\)\\s*;");

    private static final String[] FINE_THROWS = {
        "throw new IllegalStateException();",
        "throw new IllegalArgumentException(\"a written text\");",
        "throw new IllegalArgumentException(\"a \\\"written\\\" text (1); /* so */ // and so\");",
        "throw /* as the document says */ new\n    IndexOutOfBoundsException(\n    \"a text\" // written\n    );",
        "// throw thrown;",
        "/* throw\n thrown; */",
        "String told = \"throw thrown;\";",
        "char quote = '\"'; throw new IllegalStateException(); char other = '\"';",
        "int day() throws IllegalStateException;",
        "int throwing = 1;"};

    private static final String[] OTHER_THROWS = {
        "throw new IllegalArgumentException(text);",
        "throw new IllegalArgumentException(TEXT);",
        "throw new IllegalArgumentException(told());",
        "throw new IllegalArgumentException(\"a text\" + number);",
        "throw new IllegalArgumentException(\"a text\" + \" of two\");",
        "throw new IllegalArgumentException(wrong ? \"a text\" : \"another\");",
        "throw new IllegalArgumentException((\"a text\"));",
        "throw new IllegalArgumentException(\"a text\", cause);",
        "throw new IllegalArgumentException(\"a text\".substring(1));",
        "throw new IllegalArgumentException(\"a text\").fillInStackTrace();",
        "throw new IndexOutOfBoundsException(number);",
        "throw\n    new IllegalArgumentException(\n    text);",
        "throw /* \" */ new IllegalArgumentException(text); // \"",
        "char quote = '\"'; throw new IllegalArgumentException(text); char other = '\"';",
        "throw new java.util.NoSuchElementException();",
        "throw new ArithmeticException(\"a text\");",
        "throw new OwnException(\"a text\");",
        "throw new IllegalStateException() { };",
        "throw (IllegalStateException) new IllegalStateException();",
        "throw (new IllegalStateException());",
        "throw(thrown);",
        "throw wrong();",
        "throw thrown;",
        "throw null;"};

    public static void main(String[] args) throws IOException {
        face();
        membersHidden(AlmanacRoom.class);
        for (Class<?> inside : AlmanacRoom.class.getDeclaredClasses()) {
            classInside(inside);
        }
        int inside = AlmanacRoom.class.getDeclaredClasses().length;
        CHECK.is("twelve classes at the most", true, () -> inside < 12);
        throwsAreFound();
        text(Files.readString(Path.of(args.length > 0 ? args[0] : "src/main/java/AlmanacRoom.java"),
            StandardCharsets.ISO_8859_1));
        CHECK.end("LanguageTest");
    }

    private static void face() {
        Set<String> due = new TreeSet<>(Set.of(FACE));
        Set<String> got = new TreeSet<>();
        for (Method method : AlmanacRoom.class.getDeclaredMethods()) {
            if (Modifier.isPublic(method.getModifiers())) {
                got.add(toldMethod(method));
            }
        }
        CHECK.is("the face", due, () -> got);
        int modifiers = AlmanacRoom.class.getModifiers();
        CHECK.is("public and final", Modifier.PUBLIC | Modifier.FINAL, () -> modifiers);
        Constructor<?>[] constructors = AlmanacRoom.class.getDeclaredConstructors();
        CHECK.is("one constructor", 1, () -> constructors.length);
        CHECK.is("it is public", true, () -> Modifier.isPublic(constructors[0].getModifiers()));
        CHECK.is("it takes nothing", 0, () -> constructors[0].getParameterCount());
    }

    private static String toldMethod(Method method) {
        String told = method.getReturnType().getSimpleName() + " " + method.getName() + "(";
        told += names(method.getParameterTypes()) + ")";
        Class<?>[] thrown = method.getExceptionTypes();
        return thrown.length == 0 ? told : told + " throws " + names(thrown);
    }

    private static String names(Class<?>[] classes) {
        String told = "";
        for (Class<?> one : classes) {
            told += (told.isEmpty() ? "" : ", ") + one.getSimpleName();
        }
        return told;
    }

    private static void membersHidden(Class<?> of) {
        Set<String> open = new TreeSet<>();
        for (Method method : of.getDeclaredMethods()) {
            if (Modifier.isPublic(method.getModifiers())) {
                open.add(method.getName());
            }
        }
        for (Method method : of.getDeclaredMethods()) {
            boolean told = Modifier.isPublic(method.getModifiers());
            boolean hidden = Modifier.isPrivate(method.getModifiers()) && !open.contains(method.getName());
            CHECK.is("method " + method.getName() + " is open or hidden", true, () -> told || hidden);
        }
        for (Field field : of.getDeclaredFields()) {
            CHECK.is("field " + field.getName() + " is hidden", true, () -> Modifier.isPrivate(field.getModifiers()));
            staticFieldFinal(field);
        }
    }

    private static void staticFieldFinal(Field field) {
        int modifiers = field.getModifiers();
        boolean fine = !Modifier.isStatic(modifiers) || Modifier.isFinal(modifiers);
        CHECK.is("field " + field.getName() + " is no static state", true, () -> fine);
    }

    private static void classInside(Class<?> inside) {
        String name = inside.getSimpleName();
        int modifiers = inside.getModifiers();
        CHECK.is(name + " is static", true, () -> Modifier.isStatic(modifiers));
        CHECK.is(name + " is not open", false, () -> Modifier.isPublic(modifiers) || Modifier.isProtected(modifiers));
        for (Field field : inside.getDeclaredFields()) {
            staticFieldFinal(field);
        }
        for (Method method : inside.getDeclaredMethods()) {
            boolean open = false;
            for (Method of : AlmanacRoom.class.getMethods()) {
                open |= of.getDeclaringClass() == AlmanacRoom.class && of.getName().equals(method.getName());
            }
            boolean bears = open;
            CHECK.is(name + "." + method.getName() + " bears a name of the face", false, () -> bears);
        }
    }

    private static void text(String text) {
        for (String word : RULED_OUT) {
            CHECK.is("the text has " + word, false, () -> text.contains(word));
        }
        CHECK.is("all signs are of ASCII", true, () -> text.chars().allMatch(c -> c < 128));
        Matcher imports = Pattern.compile("(?m)^import (.*);").matcher(text);
        while (imports.find()) {
            String name = imports.group(1);
            CHECK.is("import " + name, "java.util.ArrayList", () -> name);
        }
        CHECK.is("throws of another form", List.of(), () -> throwsOfAnotherForm(text));
        methodsShort(text);
    }

    /** The numbers of the lines that hold a throw which is neither throw new E() nor throw new E("a written text"). */
    private static List<Integer> throwsOfAnotherForm(String text) {
        String code = withoutComments(text);
        List<Integer> found = new ArrayList<>();
        Matcher word = Pattern.compile(WRITTEN + "|\\bthrow\\b").matcher(code);
        Matcher fine = FINE_THROW.matcher(code);
        while (word.find()) {
            fine.region(word.start(), code.length());
            if (word.group().equals("throw") && !fine.lookingAt()) {
                found.add((int) code.substring(0, word.end()).lines().count());
            }
        }
        return found;
    }

    /** Each comment becomes one blank and its own line ends; a text that looks like a comment stays. */
    private static String withoutComments(String text) {
        Matcher part = Pattern.compile(WRITTEN + "|//[^\n]*|/\\*(?s:.*?)\\*/").matcher(text);
        return part.replaceAll(found -> found.group().startsWith("/")
            ? " " + found.group().replaceAll("[^\n]", "")
            : Matcher.quoteReplacement(found.group()));
    }

    /** The test of the throws would be worth nothing if it passed everything: it is tried on both kinds. */
    private static void throwsAreFound() {
        for (String fine : FINE_THROWS) {
            CHECK.is("fine: " + fine, List.of(), () -> throwsOfAnotherForm("if (wrong) {\n" + fine + "\n}\n"));
        }
        for (String other : OTHER_THROWS) {
            CHECK.is("found: " + other, List.of(2), () -> throwsOfAnotherForm("if (wrong) {\n" + other + "\n}\n"));
        }
    }

    /** By the file's indentation: a method begins and ends with the same number of blanks, 4 or 8. */
    private static void methodsShort(String text) {
        for (String indent : new String[] {"    ", "        "}) {
            Matcher method = Pattern.compile("(?s)\n" + indent + "[^ /*][^\n=;]*\\([^;]*?\\{\n.*?\n" + indent + "}")
                .matcher(text);
            while (method.find()) {
                String whole = method.group();
                if (!whole.contains(" class ")) {
                    long lines = whole.lines().count() - 1;
                    CHECK.is(whole.lines().skip(1).findFirst().orElse("") + " is short", true, () -> lines <= 60);
                }
            }
        }
    }
}
