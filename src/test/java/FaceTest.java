import java.io.IOException;
import java.lang.reflect.Constructor;
import java.lang.reflect.Field;
import java.lang.reflect.Method;
import java.lang.reflect.Modifier;
import java.nio.file.Files;
import java.nio.file.Path;
import java.util.Arrays;
import java.util.Set;
import java.util.TreeSet;
import java.util.regex.Matcher;
import java.util.regex.Pattern;

/** The public face is the document's and no more, and the rules of LANGUAGE.md that can be seen from outside hold. */
public final class FaceTest {
    private static final String FACE = "int noise(int,int)|int hush(int,int)|int house(int,int)|int now(int)"
            + "|int person(int,int)|int of(int,int)|int set(int,int,int)|int turn(int,int)|int as(int,int)"
            + "|int minutes(int)|int on(int,int,int)|int heard(int)|int reaches(int)|int catches(int)|int out()"
            + "|int where(int,int)|int kind(int,int)|int wide(int)|int pace(int)|int four(int)|int still(int)"
            + "|int quietest(int)|int feed(int,int)|int wipe()|int town()|int sheet(int,int,int)"
            + "|long write(int,int,long)|int copy(int,int,int,int,int)|int lays(int)|int book(int,int)"
            + "|int read(int,int)|int image()|int undo()|int tear()|int count(int)|int status(int)";
    private static final String[] FORBIDDEN = {
        "throw", "throws", "try", "catch", "finally", "synchronized", "assert", "native", "import", "package", "goto",
        "Object", "Exception", "Error", "Runtime", "System\\.(?!arraycopy\\b)\\w+", "Thread", "Random", "->", "::",
        "\\w+Exact", "float", "double", "@\\w+"};
    /** What the class takes of rule 4's library; whoever adds one looks there first. */
    private static final Set<String> LIBRARY = Set.of("Math.max", "Math.min", "System.arraycopy");
    private static final Path SOURCE = Path.of("src/main/java/HushAtFour.java");
    private static final Check check = new Check("FaceTest");

    public static void main(String[] args) throws IOException {
        members();
        insideClasses();
        source();
        library();
        check.end();
    }

    private static void members() {
        Set<String> due = new TreeSet<>(Arrays.asList(FACE.split("\\|")));
        Set<String> seen = new TreeSet<>();
        Set<String> publicNames = new TreeSet<>();
        for (Method m : HushAtFour.class.getDeclaredMethods()) {
            if (!Modifier.isPrivate(m.getModifiers())) {
                StringBuilder told = new StringBuilder(m.getReturnType().getName() + " " + m.getName() + "(");
                for (Class<?> type : m.getParameterTypes()) {
                    told.append(told.charAt(told.length() - 1) == '(' ? "" : ",").append(type.getName());
                }
                seen.add(told.append(")").toString());
                publicNames.add(m.getName());
                check.due(m + " is public and of objects", m.getModifiers(), Modifier.PUBLIC);
            }
        }
        check.same("the face", seen.toString(), due.toString());
        for (Method m : HushAtFour.class.getDeclaredMethods()) {
            boolean isClash = Modifier.isPrivate(m.getModifiers()) && publicNames.contains(m.getName());
            check.due("private " + m.getName() + " bears a public name", isClash ? 1 : 0, 0);
            check.due("parameters of " + m.getName() + " above 7", Math.max(7, m.getParameterCount()), 7);
        }
        for (Field f : HushAtFour.class.getDeclaredFields()) {
            check.due(f + " is private", f.getModifiers() & Modifier.PRIVATE, Modifier.PRIVATE);
            staticIsConstant(f);
        }
        Constructor<?>[] made = HushAtFour.class.getDeclaredConstructors();
        check.due("constructors", made.length, 1);
        check.due("the constructor is public", made[0].getModifiers(), Modifier.PUBLIC);
        check.due("its parameters", made[0].getParameterCount(), 0);
        check.due("the class", HushAtFour.class.getModifiers(), Modifier.PUBLIC | Modifier.FINAL);
    }

    private static void staticIsConstant(Field f) {
        if (Modifier.isStatic(f.getModifiers())) {
            check.due(f + " is final", f.getModifiers() & Modifier.FINAL, Modifier.FINAL);
            check.due(f + " is an int", f.getType() == int.class ? 1 : 0, 1);
        }
    }

    private static void insideClasses() {
        Class<?>[] inside = HushAtFour.class.getDeclaredClasses();
        check.due("classes above 12", Math.max(12, inside.length + 1), 12);
        for (Class<?> c : inside) {
            check.due(c + " is static", c.getModifiers() & Modifier.STATIC, Modifier.STATIC);
            check.due(c + " is public or protected", c.getModifiers() & (Modifier.PUBLIC | Modifier.PROTECTED), 0);
            int fields = 0;
            for (Field f : c.getDeclaredFields()) {
                staticIsConstant(f);
                fields += Modifier.isStatic(f.getModifiers()) ? 0 : 1;
            }
            check.due("fields of " + c + " above 20", Math.max(20, fields), 20);
        }
    }

    /** The source without its comments and texts. */
    private static String code() throws IOException {
        String all = Files.readString(SOURCE);
        return all.replaceAll("(?s)/\\*.*?\\*/", "").replaceAll("//[^\n]*", "").replaceAll("\"[^\"]*\"", "\"\"");
    }

    /** Constants count too: rule 4 lists functions of Integer, Long and Math, and no constant of theirs. */
    private static void library() throws IOException {
        Matcher used = Pattern.compile("\\b[A-Z]\\w*[a-z]\\w*\\.\\w+").matcher(code());
        while (used.find()) {
            check.due(used.group() + " is of rule 4's library", LIBRARY.contains(used.group()) ? 1 : 0, 1);
        }
    }

    private static void source() throws IOException {
        String all = Files.readString(SOURCE);
        check.due("signs above 127", all.chars().filter(c -> c > 127).count(), 0);
        String code = code();
        for (String word : FORBIDDEN) {
            String whole = word.matches("\\w.*") ? "\\b" + word + "\\b" : word;
            Matcher found = Pattern.compile(whole).matcher(code);
            check.same("forbidden in the source", found.find() ? found.group() : "nothing", "nothing");
        }
        int lines = 0;
        for (String line : all.split("\n")) {
            lines = line.matches(" {4}( {4})?}") ? 0 : lines + 1;
            boolean isInMethod = line.startsWith("        ");
            check.due("lines of a method above 60, at " + line, isInMethod ? Math.max(60, lines) : 60, 60);
        }
    }
}
