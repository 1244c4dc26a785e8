import java.io.IOException;
import java.lang.reflect.Constructor;
import java.lang.reflect.Method;
import java.lang.reflect.Modifier;
import java.nio.file.Files;
import java.nio.file.Path;
import java.util.Arrays;
import java.util.Set;
import java.util.TreeSet;
import java.util.regex.Matcher;
import java.util.regex.Pattern;

/** The face of Recertify is that of the document, and its file keeps the rules that a search can see. */
final class FaceTest {
    private static final String FACE = """
        int addPerson(int, int) IllegalArgumentException NoSuchElementException IllegalStateException
        boolean setAbsent(int, boolean) NoSuchElementException
        int setSubstitute(int, int) NoSuchElementException IllegalArgumentException
        int addGroup(int) NoSuchElementException IllegalStateException
        int addMember(int, int) NoSuchElementException IllegalStateException
        int removeMember(int, int) NoSuchElementException IllegalStateException
        int nest(int, int) NoSuchElementException UnsupportedOperationException IllegalStateException
        int addRight(int, int, boolean) IllegalArgumentException NoSuchElementException IllegalStateException
        int grantPerson(int, int) NoSuchElementException IllegalStateException
        int grantGroup(int, int) NoSuchElementException IllegalStateException
        int use(int, int) NoSuchElementException IllegalStateException
        int pass(int) IllegalArgumentException
        int setLimit(int) IllegalArgumentException
        int setGrace(int) IllegalArgumentException
        int openCampaign(int) IllegalArgumentException IllegalStateException
        int answer(int, int, char) IllegalStateException NoSuchElementException IllegalArgumentException \
        UnsupportedOperationException
        int people()
        int day()
        int standIn(int) NoSuchElementException
        boolean isMember(int, int) NoSuchElementException
        int members(int) NoSuchElementException
        boolean holds(int, int) NoSuchElementException
        boolean holdsByPaths(int, int) NoSuchElementException
        int rightsOf(int) NoSuchElementException
        int holdersOf(int) NoSuchElementException
        int rightBits(int) NoSuchElementException
        int apart(int, int) NoSuchElementException
        boolean isDenied(int, int) NoSuchElementException
        int paths(int, int) NoSuchElementException
        int pathLength(int, int) NoSuchElementException IllegalStateException
        int pathAt(int, int, int) NoSuchElementException IllegalStateException IndexOutOfBoundsException
        int riskOf(int) NoSuchElementException IllegalStateException
        int riskFor(int, int) NoSuchElementException
        int reviewerOf(int) NoSuchElementException
        int grants()
        char stateOf(int) NoSuchElementException
        int dueDay(int) NoSuchElementException IllegalStateException
        int lastUse(int) NoSuchElementException
        boolean isBlocked(int) NoSuchElementException
        int items()
        boolean isOpen()
        int undecided()
        int grantOf(int) NoSuchElementException
        char verdict(int) NoSuchElementException
        int decider(int) NoSuchElementException IllegalStateException
        int nextItem(int) NoSuchElementException IllegalStateException
        int entries()
        char signAt(int) NoSuchElementException
        int sealAt(int) NoSuchElementException
        int sealByReplay(int) NoSuchElementException
        long trace()
        float revokedShare() ArithmeticException
        double meanRisk() ArithmeticException
        """;

    /** What no rule of LANGUAGE.md leaves to the program, or what the program does without. */
    private static final String[] RULED_OUT = {
        "->", "::", "\\b(finally|synchronized|assert|try|catch|package|protected|instanceof|extends)\\b",
        "static \\{", "\\bSystem\\.", "\\b(hashCode|toString|Random)\\b", "Exact\\("};

    private final Check check = new Check();

    private static String simpleNames(Class<?>[] types, String between) {
        StringBuilder told = new StringBuilder();
        for (Class<?> type : types) {
            told.append(told.length() > 0 ? between : "").append(type.getSimpleName());
        }
        return told.toString();
    }

    private static String tell(Method method) {
        String told = method.getReturnType().getSimpleName() + " " + method.getName()
            + "(" + simpleNames(method.getParameterTypes(), ", ") + ") "
            + simpleNames(method.getExceptionTypes(), " ");
        return told.trim();
    }

    private void checkFace() {
        Set<String> due = new TreeSet<>(Arrays.asList(FACE.split("\n")));
        Set<String> got = new TreeSet<>();
        Set<String> publicNames = new TreeSet<>();
        for (Method method : Recertify.class.getDeclaredMethods()) {
            if (Modifier.isPublic(method.getModifiers())) {
                got.add(tell(method));
                publicNames.add(method.getName());
            }
        }
        check.is("methods", got, due);
        check.is("number of methods", got.size(), 53);
        for (Method method : Recertify.class.getDeclaredMethods()) {
            if (!Modifier.isPublic(method.getModifiers())) {
                check.is(method + " is private", Modifier.isPrivate(method.getModifiers()), true);
                check.is(method + " has a name of its own", publicNames.contains(method.getName()), false);
            }
        }
        Constructor<?>[] constructors = Recertify.class.getDeclaredConstructors();
        check.is("constructors", constructors.length, 1);
        check.is("constructor", Modifier.isPublic(constructors[0].getModifiers()), true);
        check.is("class", Recertify.class.getModifiers(), Modifier.PUBLIC | Modifier.FINAL);
        Arrays.stream(Recertify.class.getDeclaredFields()).forEach(field ->
            check.is(field + " is private", Modifier.isPrivate(field.getModifiers()), true));
    }

    private void checkLanguage() throws IOException {
        String source = Files.readString(Path.of("src/main/java/Recertify.java"));
        String code = source.replaceAll("(?s)/\\*.*?\\*/", "").replaceAll("//.*", "");
        for (String pattern : RULED_OUT) {
            check.is("the file holds " + pattern, Pattern.compile(pattern).matcher(code).find(), false);
        }
        check.is("imports", code.split("import ").length - 1, 1);
        Matcher made = Pattern.compile("new (\\w+)[(\\[]").matcher(code);
        Set<String> due = new TreeSet<>(Arrays.asList(
            "int", "char", "boolean", "People", "Groups", "Rights", "Grants", "Campaign", "Evidence",
            "NoSuchElementException", "IllegalStateException", "IllegalArgumentException",
            "IndexOutOfBoundsException", "ArithmeticException", "UnsupportedOperationException"));
        Set<String> got = new TreeSet<>();
        while (made.find()) {
            got.add(made.group(1));
        }
        check.is("what is made", got, due);
    }

    public static void main(String[] args) throws IOException {
        FaceTest test = new FaceTest();
        test.checkFace();
        test.checkLanguage();
        test.check.end();
    }
}
