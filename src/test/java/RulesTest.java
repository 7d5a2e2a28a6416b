import java.io.IOException;
import java.lang.reflect.Constructor;
import java.lang.reflect.Field;
import java.lang.reflect.Member;
import java.lang.reflect.Method;
import java.lang.reflect.Modifier;
import java.nio.file.Files;
import java.nio.file.Path;
import java.util.Arrays;
import java.util.Set;
import java.util.TreeSet;
import java.util.regex.Matcher;
import java.util.regex.Pattern;
import java.util.stream.Collectors;

/** The public face as the document has it, and those rules of LANGUAGE.md that can be seen from outside. */
public final class RulesTest {
    private static final Check CHECK = new Check("RulesTest");
    private static final Path SOURCE = Path.of("src/main/java/WristTreaty.java");
    private static final String FACE = "int feed(int,int,int,int,int) int end(int) int gorge() int fault(int) int man(int,int)"
            + " int clause(int,int) int start(int) int out(int,int) int next(int) int meetings(int) int longest() int able()"
            + " int soonest() int often(int) int kept() int meet(int) int pushes(int) int hold(int,int) int pair()"
            + " int partner(int) int strong(int) int weak(int) int match() int matched(int) int loners() int fair()"
            + " int resin(int,int,int) int spare(int,int) int cut(int,int) int waits(int,int) int least(int)"
            + " int order(int,int) int needs(int) int ends(int) int full(int) int fulls(int) int once(int) int onces(int)"
            + " int worth(int,int) int signs() int deal() int even() int veto(int) int must(int) int musts(int)"
            + " int bundles() int bundle() int firm() int rests(int,int) int stands() int fits(int) int tired(int)"
            + " int by(int,int) int ask(int) long chance(int,int,int,int) int sure(int,int,int) long mean(int,int,int)"
            + " int push(int,int) int swing(int,int) int sign(int) int drop() int now(int) int undo() int anew()"
            + " int drawn(int,int,int) int luck(int,int,int,int,int) int grip(int,int) int count(int) int image(int)"
            + " int back(int) int row(int,int,int) int write(int,int,long) int paste(int,int,int,int,int)";

    public static void main(String[] args) throws IOException {
        face();
        hiddenMembers();
        nestedClasses();
        words();
        newObjects();
        library();
        shortMethods();
        CHECK.finish();
    }

    private static boolean isTrue(String what, boolean holds) {
        CHECK.due(what, holds ? 1 : 0, 1);
        return holds;
    }

    private static void face() {
        Set<String> due = new TreeSet<>(Arrays.asList(FACE.split(" (?=int |long )")));
        Set<String> got = Arrays.stream(WristTreaty.class.getDeclaredMethods())
                .filter(m -> !Modifier.isPrivate(m.getModifiers())).map(RulesTest::told).collect(Collectors.toCollection(TreeSet::new));
        isTrue("the methods are the document's: " + got, due.equals(got) && due.size() == 73);
        for (Method method : WristTreaty.class.getDeclaredMethods()) {
            if (!Modifier.isPrivate(method.getModifiers())) {
                isTrue(method + " is public alone", method.getModifiers() == Modifier.PUBLIC);
            }
        }
        Constructor<?>[] constructors = WristTreaty.class.getDeclaredConstructors();
        isTrue("one constructor", constructors.length == 1 && constructors[0].getParameterCount() == 0
                && Modifier.isPublic(constructors[0].getModifiers()));
        isTrue("public and final", WristTreaty.class.getModifiers() == (Modifier.PUBLIC | Modifier.FINAL));
    }

    private static String told(Method method) {
        return method.getReturnType().getName() + " " + method.getName() + "("
                + Arrays.stream(method.getParameterTypes()).map(Class::getName).collect(Collectors.joining(",")) + ")";
    }

    private static void hiddenMembers() {
        for (Field field : WristTreaty.class.getDeclaredFields()) {
            boolean isNone = field.getName().equals("NONE");
            isTrue(field + " is hidden", isNone != Modifier.isPrivate(field.getModifiers()));
        }
    }

    private static void nestedClasses() {
        Set<String> names = Arrays.stream(WristTreaty.class.getDeclaredMethods())
                .filter(m -> Modifier.isPublic(m.getModifiers())).map(Member::getName).collect(Collectors.toSet());
        isTrue("twelve classes at most", WristTreaty.class.getDeclaredClasses().length < 12);
        for (Class<?> nested : WristTreaty.class.getDeclaredClasses()) {
            isTrue(nested + " is static", Modifier.isStatic(nested.getModifiers()));
            isTrue(nested + " is not public", (nested.getModifiers() & (Modifier.PUBLIC | Modifier.PROTECTED)) == 0);
            for (Method method : nested.getDeclaredMethods()) {
                isTrue(method + " has a name of its own", !names.contains(method.getName()));
                isTrue(method + " takes seven at most", method.getParameterCount() <= 7);
            }
            for (Field field : nested.getDeclaredFields()) {
                if (Modifier.isStatic(field.getModifiers())) {
                    isTrue(field + " is final", Modifier.isFinal(field.getModifiers()));
                }
            }
            long fields = Arrays.stream(nested.getDeclaredFields()).filter(f -> !Modifier.isStatic(f.getModifiers())).count();
            isTrue(nested + " has twenty fields at most", fields <= 20);
        }
        for (Method method : WristTreaty.class.getDeclaredMethods()) {
            isTrue(method + " has a name of its own",
                    Modifier.isPublic(method.getModifiers()) || !names.contains(method.getName()));
        }
    }

    private static String code() throws IOException {
        return Files.readString(SOURCE).replaceAll("(?s)/\\*.*?\\*/", "").replaceAll("//[^\n]*", "");
    }

    private static void words() throws IOException {
        String code = code();
        String[] ruledOut = {"\\bthrow", "\\btry\\b", "\\bcatch\\b", "\\bsynchronized\\b", "\\bassert\\b", "->", "::",
            "Exact\\b", "\\bprotected\\b", "\\bpackage\\b", "\\bSystem\\.(?!arraycopy)", "\\bdouble\\b", "\\bfloat\\b",
            "\\bvolatile\\b", "\\bRandom\\b", "\\btoString\\b", "\\bequals\\b", "\\bhashCode\\b", "\\bvar\\b", "\" *\\+", "\\+ *\""};
        for (String word : ruledOut) {
            isTrue("no " + word, !Pattern.compile(word).matcher(code).find());
        }
        isTrue("Arrays alone is brought in", code.lines().filter(l -> l.startsWith("import")).count() == 1
                && code.contains("import java.util.Arrays;"));
        isTrue("signs 1 to 127 alone", code.chars().allMatch(c -> c > 0 && c < 128));
    }

    /** Of the library only what rule 4 lists, a class's constants being no functions. */
    private static void library() throws IOException {
        Set<String> listed = Set.of("Integer.bitCount", "Math.min", "Math.max", "Math.floorMod", "Arrays.fill", "System.arraycopy");
        Matcher used = Pattern.compile("\\b(Integer|Long|Short|Byte|Character|Math|Arrays|System|String|List)\\.\\w+")
                .matcher(code().replaceAll("(?m)^import.*$", ""));
        while (used.find()) {
            isTrue(used.group() + " is listed", listed.contains(used.group()));
        }
    }

    /** A method ends with the first brace that stands as far in as its own line. */
    private static void shortMethods() throws IOException {
        String indent = "";
        int lines = 0;
        String method = "";
        for (String line : Files.readAllLines(SOURCE)) {
            if (method.isEmpty() && line.matches(" +[\\w\\[\\] ]+\\([^)]*\\) \\{") && !line.matches(" +(if|for|while|switch) .*")) {
                method = line.trim();
                indent = line.substring(0, line.indexOf(method));
                lines = 0;
            }
            lines++;
            if (!method.isEmpty() && line.equals(indent + "}")) {
                isTrue(method + " is short", lines <= 60);
                method = "";
            }
        }
    }

    /** Rows are made with the object and used again: a new stands in a field's line or in the constructor alone. */
    private static void newObjects() throws IOException {
        String code = code();
        int begin = code.indexOf("public WristTreaty() {");
        int stop = code.indexOf("    public int feed(");
        String rest = code.substring(0, begin) + code.substring(stop);
        for (String line : rest.lines().filter(l -> l.matches(".*\\bnew\\b.*")).collect(Collectors.toList())) {
            isTrue("a field's line: " + line, line.matches(" +(private )?final \\S+ \\w+ = new [^;]*;"));
        }
    }
}
