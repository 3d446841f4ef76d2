import java.lang.reflect.Field;
import java.lang.reflect.Method;
import java.lang.reflect.Modifier;
import java.nio.file.Files;
import java.nio.file.Path;
import java.util.ArrayList;
import java.util.List;
import java.util.Set;
import java.util.TreeSet;
import java.util.regex.Matcher;
import java.util.regex.Pattern;

/** The face of the class, and those rules of LANGUAGE.md that can be seen from outside or by reading its words. */
public final class LanguageTest {
    private static final Path SOURCE = Path.of("src/main/java/BookDroplets.java");
    private static final Set<String> FACE = Set.of("int set(int,int)", "int chapter(int)", "int cup()", "int empty(int)",
        "int pour(int,int,int)", "int solve(int)", "int droplet(int,int)", "int ofCup(int,int)", "int known(int,int)",
        "int kept(int,int,int)", "int count(int)", "int would(int,int)", "int needs(int,int)", "int degrees(int,int,int)",
        "int put(long)", "int wipe()", "int fault()", "int carryOut()", "int undo()", "int save(int)", "int restore(int)");
    private static final Set<String> CONSTANTS =
        Set.of("NO_SUCH", "BAD_VALUE", "BAD_TEXT", "TOO_MANY", "NOT_POSSIBLE", "NONE", "WAY", "LOSS");

    public static void main(String[] args) throws Exception {
        face();
        classesInside();
        words();
        methodsAreShort();
        everythingIsMadeByConstructorsAndSave();
        Due.end();
    }

    private static void face() {
        Class<?> program = BookDroplets.class;
        Due.is("the class is public and final", program.getModifiers(), Modifier.PUBLIC | Modifier.FINAL);
        Due.is("constructors", program.getDeclaredConstructors().length, 1);
        Due.is("public constructors", program.getConstructors().length, 1);
        Set<String> open = new TreeSet<>();
        Set<String> names = new TreeSet<>();
        for (Method method : program.getDeclaredMethods()) {
            if (!Modifier.isPrivate(method.getModifiers())) {
                open.add(method.toString().replace("BookDroplets.", ""));
                names.add(method.getName());
            }
        }
        Set<String> due = new TreeSet<>();
        for (String method : FACE) {
            due.add("public " + method);
        }
        Due.is("the methods are those of the face: " + open, open.equals(due) ? 1 : 0, 1);
        for (Class<?> one : allClasses()) {
            for (Method method : one.getDeclaredMethods()) {
                boolean hides = Modifier.isPrivate(method.getModifiers()) && names.contains(method.getName());
                Due.is(method + " bears the name of a public one", hides ? 1 : 0, 0);
                Due.is(method + " takes at most seven parameters", method.getParameterCount() <= 7 ? 1 : 0, 1);
            }
        }
        Set<String> constants = new TreeSet<>();
        for (Field field : program.getDeclaredFields()) {
            if (!Modifier.isPrivate(field.getModifiers())) {
                constants.add(field.getName());
                boolean fixed = field.getModifiers() == (Modifier.PUBLIC | Modifier.STATIC | Modifier.FINAL);
                Due.is(field + " is a constant", fixed && field.getType() == int.class ? 1 : 0, 1);
            }
        }
        Due.is("the constants are those of the face", constants.equals(CONSTANTS) ? 1 : 0, 1);
    }

    private static List<Class<?>> allClasses() {
        List<Class<?>> all = new ArrayList<>(List.of(BookDroplets.class.getDeclaredClasses()));
        all.add(BookDroplets.class);
        return all;
    }

    private static void classesInside() {
        Due.is("at most twelve classes", allClasses().size() <= 12 ? 1 : 0, 1);
        for (Class<?> one : allClasses()) {
            int modifiers = one.getModifiers();
            boolean isStatic = Modifier.isStatic(modifiers) && !Modifier.isPublic(modifiers) && !Modifier.isProtected(modifiers);
            Due.is(one + " is static, and not open", isStatic || one == BookDroplets.class ? 1 : 0, 1);
            int fields = 0;
            for (Field field : one.getDeclaredFields()) {
                boolean isShared = Modifier.isStatic(field.getModifiers());
                fields += isShared ? 0 : 1;
                Due.is(field + ": no other static state", isShared && !Modifier.isFinal(field.getModifiers()) ? 1 : 0, 0);
            }
            Due.is(one + " has at most twenty fields", fields <= 20 ? 1 : 0, 1);
        }
    }

    private static String withoutComments() throws Exception {
        String source = Files.readString(SOURCE);
        return source.replaceAll("(?s)/\\*.*?\\*/", "").replaceAll("//[^\n]*", "");
    }

    private static void words() throws Exception {
        String code = withoutComments();
        for (String word : new String[] {"throw", "throws", "try", "catch", "synchronized", "assert", "import", "package",
            "equals", "hashCode", "toString", "Random", "currentTimeMillis", "nanoTime", "Thread", "volatile", "while"}) {
            Due.is("the word " + word, Pattern.compile("\\b" + word + "\\b").matcher(code).find() ? 1 : 0, 0);
        }
        for (String sign : new String[] {"->", "::", "\"", "@"}) {
            Due.is("the sign " + sign, code.contains(sign) ? 1 : 0, 0);
        }
        Matcher library = Pattern.compile("\\b(Integer|Math|System|Arrays|Long|String|StringBuilder|ArrayList|List)\\b[.\\w]*")
            .matcher(code);
        Set<String> allowed = Set.of("Integer.bitCount", "Math.max", "Math.min", "Math.floorMod", "System.arraycopy");
        while (library.find()) {
            Due.is("the library's " + library.group(), allowed.contains(library.group()) ? 1 : 0, 1);
        }
    }

    private static void methodsAreShort() throws Exception {
        int start = -1;
        String[] lines = Files.readString(SOURCE).split("\n");
        for (int i = 0; i < lines.length; i++) {
            if (lines[i].matches(" {4,8}[\\w ].*\\) \\{") && !lines[i].contains(" class ")) {
                start = i;
            } else if (start >= 0 && lines[i].matches(" {4,8}\\}") && lines[i].indexOf('}') == indent(lines[start])) {
                Due.is("line " + (start + 1) + ": a method is short", i - start < 60 ? 1 : 0, 1);
                start = -1;
            }
        }
    }

    private static int indent(String line) {
        return line.length() - line.stripLeading().length();
    }

    /** So no run can make many objects: what stands in the constructors, and a state for each slot. */
    private static void everythingIsMadeByConstructorsAndSave() throws Exception {
        int found = 0;
        for (String line : withoutComments().split("\n")) {
            boolean isField = line.contains("final ");
            found += line.contains("new ") && !isField ? 1 : 0;
        }
        Due.is("places other than fields where something is made", found, 3);
    }
}
