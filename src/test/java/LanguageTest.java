import java.io.IOException;
import java.lang.reflect.Constructor;
import java.lang.reflect.Field;
import java.lang.reflect.Method;
import java.lang.reflect.Modifier;
import java.nio.file.Files;
import java.nio.file.Path;
import java.util.Arrays;
import java.util.List;
import java.util.Set;
import java.util.TreeSet;
import java.util.regex.Matcher;
import java.util.regex.Pattern;

/** Rules of LANGUAGE.md that can be seen from the class and its source; run from the project's root. */
public final class LanguageTest {
    private static final String FACE = "again(int)boolean asks()int bears(int)int blows(int,int)int box(int,int)int "
            + "casts(int)int chord(int)int cleans(int)int count(int)int denies()int end(int)boolean fits()int forget()int "
            + "galley(int)int gravest(int)int heard(int,int)int keep(int)boolean later(int,int)int law()int laws()int "
            + "looks()int mixed()int moves(int,int)int nights(int)int often()int packs()int parts()int reads(int)int "
            + "rests(int)int round()int row(int)long rubs()int rule()int saw(int,int,int)int sets(int)int settles()int "
            + "sheet(int,int,int,int)int shortest()int sign(int)int sort(int,int)int sorts()int spans()int tells()int "
            + "undo()int week()int years(int,int)int";

    private static final int MOST_CLASSES = 12;
    private static final int MOST_FIELDS = 20;
    private static final int MOST_LINES = 60;
    private static final int MOST_PARAMETERS = 7;

    public static void main(String[] args) throws IOException {
        Calls.promise("LANGUAGE.md");
        String source = Files.readString(Path.of("src/main/java/TypeAtNight.java"));
        face();
        names();
        sizes();
        words(stripped(source));
        methods(source);
        Calls.close("LanguageTest");
    }

    private static void face() {
        Set<String> methods = new TreeSet<>();
        for (Method method : TypeAtNight.class.getDeclaredMethods()) {
            if (!Modifier.isPrivate(method.getModifiers())) {
                StringBuilder told = new StringBuilder(method.getName()).append('(');
                for (Class<?> type : method.getParameterTypes()) {
                    told.append(told.charAt(told.length() - 1) == '(' ? "" : ",").append(type);
                }
                methods.add(told.append(')').append(method.getReturnType()).toString());
                Calls.due(method.getName() + " is public", Modifier.isPublic(method.getModifiers()), true);
                boolean throwing = List.of("sort", "box", "row").contains(method.getName());
                Calls.due(method.getName() + " says what it throws", Arrays.toString(method.getExceptionTypes()),
                        throwing ? "[class java.util.NoSuchElementException]" : "[]");
            }
        }
        Calls.due("methods", String.join(" ", methods), String.join(" ", new TreeSet<>(List.of(FACE.split(" ")))));
        Constructor<?>[] constructors = TypeAtNight.class.getDeclaredConstructors();
        Calls.due("constructors", constructors.length, 1);
        Calls.due("parameters of the constructor", constructors[0].getParameterCount(), 0);
        for (Field field : TypeAtNight.class.getDeclaredFields()) {
            Calls.due(field.getName() + " is private", Modifier.isPrivate(field.getModifiers()),
                    !field.getName().equals("NONE"));
        }
        Calls.due("the class", TypeAtNight.class.getModifiers(), Modifier.PUBLIC | Modifier.FINAL);
    }

    private static void names() {
        Set<String> open = new TreeSet<>();
        for (Method method : TypeAtNight.class.getMethods()) {
            open.add(method.getName());
        }
        for (Class<?> type : classes()) {
            for (Method method : type.getDeclaredMethods()) {
                boolean face = type == TypeAtNight.class && Modifier.isPublic(method.getModifiers());
                Calls.due(type.getSimpleName() + "." + method.getName() + " bears a name of the face",
                        !face && open.contains(method.getName()), false);
                Calls.due("parameters of " + method.getName(), method.getParameterCount() <= MOST_PARAMETERS, true);
            }
        }
    }

    private static List<Class<?>> classes() {
        List<Class<?>> all = new java.util.ArrayList<>(Arrays.asList(TypeAtNight.class.getDeclaredClasses()));
        all.add(TypeAtNight.class);
        return all;
    }

    private static void sizes() {
        Calls.due("at most twelve classes", classes().size() <= MOST_CLASSES, true);
        for (Class<?> type : classes()) {
            int fields = 0;
            for (Field field : type.getDeclaredFields()) {
                boolean constant = Modifier.isStatic(field.getModifiers());
                Calls.due(field.getName() + ", static, is final", constant && !Modifier.isFinal(field.getModifiers()), false);
                fields += constant ? 0 : 1;
            }
            Calls.due("at most twenty fields in " + type.getSimpleName(), fields <= MOST_FIELDS, true);
        }
    }

    /** The source without comments and written texts. */
    private static String stripped(String source) {
        return source.replaceAll("(?s)/\\*.*?\\*/", "").replaceAll("//[^\n]*", "").replaceAll("\"[^\"\n]*\"", "\"\"");
    }

    private static void words(String code) {
        String[] never = {"->", "::", "\\bcatch\\b", "\\btry\\b", "\\bfinally\\b", "\\bsynchronized\\b", "\\bassert\\b",
            "\\bstatic\\s*\\{", "Exact\\b", "\\bpackage\\b", "\\bObject\\b", "\\bThread\\b", "\\bRandom\\b",
            "currentTimeMillis", "nanoTime", "\\.hashCode\\b", "\\.getMessage\\b", "\\bdouble\\b", "\\bfloat\\b",
            "\\bprotected\\b", "\"\\s*\\+", "\\+\\s*\"", "\\bstream\\b", "\\bwhile\\s*\\(true\\)", "for\\s*\\(;;\\)"};
        for (String word : never) {
            Matcher m = Pattern.compile(word).matcher(code);
            Calls.due("the source has " + word, m.find(), false);
        }
        uses(code, "import ([\\w.]+);", "java.util.Arrays java.util.NoSuchElementException");
        uses(code, "\\bArrays\\.(\\w+)", "fill");
        uses(code, "\\bSystem\\.(\\w+)", "arraycopy");
        uses(code, "\\bMath\\.(\\w+)", "abs max min");
        uses(code, "\\bInteger\\.(\\w+)", "bitCount numberOfTrailingZeros");
        uses(code, "\\bLong\\.(\\w+)", "numberOfTrailingZeros");
        uses(code, "\\bthrow new (\\w+)", "NoSuchElementException");
        for (int p = 0; p < code.length(); p++) {
            if (code.charAt(p) > 127) {
                Calls.due("a sign beyond 127 at " + p, true, false);
            }
        }
    }

    /** What the code uses of a kind is among these. */
    private static void uses(String code, String pattern, String allowed) {
        Set<String> names = Set.of(allowed.split(" "));
        Matcher m = Pattern.compile(pattern).matcher(code);
        while (m.find()) {
            Calls.due("use of " + m.group(), names.contains(m.group(1)), true);
        }
    }

    /** A method ends with the bracket that stands as far in as its head; one that calls itself is private and static. */
    private static void methods(String source) {
        String[] lines = source.split("\n");
        Pattern heads = Pattern.compile("^( {4}| {8})(?!.*\\b(class|new|return|if|for|while|switch)\\b)\\S.*\\) ?(throws \\w+ )?\\{$");
        for (int from = 0; from < lines.length; from++) {
            Matcher m = heads.matcher(lines[from]);
            if (m.matches()) {
                int to = from;
                while (!lines[to].equals(m.group(1) + "}")) {
                    to++;
                }
                String head = lines[from].trim();
                Calls.due("lines of " + head, to - from + 1 <= MOST_LINES, true);
                String name = head.replaceAll("\\(.*", "").replaceAll(".* ", "");
                String body = String.join("\n", Arrays.copyOfRange(lines, from + 1, to));
                boolean callsItself = Pattern.compile("(?<![.\\w])" + name + "\\(").matcher(body).find();
                Calls.due("calls itself, not private and static: " + head,
                        callsItself && !head.startsWith("private static "), false);
            }
        }
    }
}
