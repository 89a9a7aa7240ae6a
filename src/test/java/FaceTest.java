import java.io.IOException;
import java.lang.reflect.Constructor;
import java.lang.reflect.Field;
import java.lang.reflect.Method;
import java.lang.reflect.Modifier;
import java.nio.charset.StandardCharsets;
import java.nio.file.Files;
import java.nio.file.Path;
import java.util.ArrayList;
import java.util.Arrays;
import java.util.HashSet;
import java.util.List;
import java.util.Map;
import java.util.Set;
import java.util.TreeMap;
import java.util.TreeSet;
import java.util.regex.Matcher;
import java.util.regex.Pattern;

/** The face is the document's, no more and no less; and what can be told of LANGUAGE.md by a look at the source. */
public final class FaceTest {
    private static int wrong;

    private static final String INDEX = "IndexOutOfBoundsException";
    private static final String ARGUMENT = "IllegalArgumentException";
    private static final String STATE = "IllegalStateException";

    private static final String[] FACE = {
        "int begin(int, int, int) " + INDEX + " " + ARGUMENT + " " + STATE,
        "int giveUp(int) " + INDEX + " " + STATE,
        "int ask(int, int) " + INDEX + " " + STATE,
        "boolean deliver(int) " + INDEX,
        "int deliverAll()",
        "int lose(int) " + INDEX,
        "int crash(int) " + INDEX + " " + STATE,
        "int recover(int) " + INDEX + " " + STATE,
        "int append(int) " + ARGUMENT + " " + STATE,
        "int clearBuffer()",
        "int firstError()",
        "int runCourse() " + ARGUMENT,
        "int keep()",
        "int goBack() " + STATE,
        "int undo() " + STATE,
        "int transfers()",
        "int partners(int) " + INDEX,
        "int share(int, int) " + INDEX,
        "boolean isUp(int) " + INDEX,
        "int amount(int) " + INDEX,
        "int amountByLog(int) " + INDEX,
        "int state(int, int) " + INDEX,
        "int stateByLog(int, int) " + INDEX,
        "int inDoubt(int) " + INDEX,
        "int outcome(int) " + INDEX,
        "int outcomeByStores(int) " + INDEX,
        "boolean hasEnded(int) " + INDEX,
        "int saidYes(int) " + INDEX,
        "int saidDone(int) " + INDEX,
        "int total()",
        "int onTheWay()",
        "int records(int) " + INDEX,
        "int recordKind(int, int) " + INDEX,
        "int recordTransfer(int, int) " + INDEX,
        "int waiting()",
        "int kindOf(int) " + INDEX,
        "int transferOf(int) " + INDEX,
        "int storeOf(int) " + INDEX,
        "int sent()",
        "int sentByAccount()",
        "int lost()",
        "int wouldSend(int) " + INDEX,
        "int messagesToSettle()",
        "int outcomeIfSettled(int) " + INDEX,
        "int amountIfSettled(int) " + INDEX,
        "int greatestSize(int, int) " + INDEX + " " + ARGUMENT,
        "double lostShare()",
        "float meanSize()",
        "long digest()",
    };

    private static void check(String what, boolean holds) {
        if (!holds) {
            wrong++;
            System.out.println(what);
        }
    }

    private static String told(Method method) {
        StringBuilder text = new StringBuilder(method.getReturnType().getName() + " " + method.getName() + "(");
        for (int i = 0; i < method.getParameterCount(); i++) {
            text.append(i == 0 ? "" : ", ").append(method.getParameterTypes()[i].getName());
        }
        text.append(")");
        for (Class<?> thrown : method.getExceptionTypes()) {
            text.append(" ").append(thrown.getSimpleName());
        }
        return text.toString();
    }

    private static void face() throws ReflectiveOperationException {
        Class<?> face = VoteLogs.class;
        check("the class is public and final", Modifier.isPublic(face.getModifiers()) && Modifier.isFinal(face.getModifiers()));
        check("the class stands alone", face.getSuperclass() == Object.class && face.getInterfaces().length == 0);
        Set<String> open = new TreeSet<>();
        Set<String> privateNames = new HashSet<>();
        for (Method method : face.getDeclaredMethods()) {
            if (Modifier.isPrivate(method.getModifiers())) {
                privateNames.add(method.getName());
            } else {
                check(method + " is public and not static", Modifier.isPublic(method.getModifiers()) && !Modifier.isStatic(method.getModifiers()));
                open.add(told(method));
            }
        }
        Set<String> due = new TreeSet<>(Arrays.asList(FACE));
        check("the methods are " + open + ", due are " + due, open.equals(due));
        for (String line : due) {
            String name = line.substring(line.indexOf(' ') + 1, line.indexOf('('));
            check("a private method bears the name " + name, !privateNames.contains(name));
        }
        Constructor<?>[] constructors = face.getDeclaredConstructors();
        check("there is one constructor, without parameters",
                constructors.length == 1 && constructors[0].getParameterCount() == 0 && Modifier.isPublic(constructors[0].getModifiers()));
        for (Field field : face.getDeclaredFields()) {
            boolean isNone = field.getName().equals("NONE");
            check(field + " is open only if it is NONE", Modifier.isPrivate(field.getModifiers()) != isNone);
            check(field + " is final if it is static", !Modifier.isStatic(field.getModifiers()) || Modifier.isFinal(field.getModifiers()));
        }
        Field none = face.getDeclaredField("NONE");
        check("NONE is a public constant", Modifier.isPublic(none.getModifiers()) && Modifier.isStatic(none.getModifiers()) && Modifier.isFinal(none.getModifiers()));
        check("NONE is the int -1", none.getType() == int.class && none.getInt(null) == -1);
        for (Class<?> inside : face.getDeclaredClasses()) {
            check(inside + " is static and not public", Modifier.isStatic(inside.getModifiers()) && !Modifier.isPublic(inside.getModifiers()));
        }
    }

    private static List<String> sourceWithoutComments() throws IOException {
        String text = Files.readString(Path.of("src/main/java/VoteLogs.java"), StandardCharsets.ISO_8859_1);
        Matcher comment = Pattern.compile("/\\*.*?\\*/", Pattern.DOTALL).matcher(text);
        StringBuilder bare = new StringBuilder();
        int from = 0;
        while (comment.find()) {
            bare.append(text, from, comment.start());
            bare.append("\n".repeat((int) comment.group().chars().filter(c -> c == '\n').count()));
            from = comment.end();
        }
        bare.append(text.substring(from));
        List<String> lines = new ArrayList<>();
        for (String line : bare.toString().split("\n", -1)) {
            int slashes = line.indexOf("//");
            lines.add(slashes < 0 ? line : line.substring(0, slashes));
        }
        return lines;
    }

    private static void language() throws IOException {
        Pattern banned = Pattern.compile("\\b(import|package|try|catch|finally|synchronized|assert|volatile|transient|native|null|instanceof"
                + "|Double|Float|Object|toString|hashCode|getMessage|doubleToLongBits|floatToIntBits)\\b|->|::|@|\\w+Exact\\b");
        Pattern method = Pattern.compile("^( {4}| {8})(public|private|static|final|boolean|int|long|void|double|float|String| )+ \\w+\\(.*\\).*\\{$");
        List<String> lines = sourceWithoutComments();
        int start = -1;
        String indent = "";
        int classes = 0;
        for (int i = 0; i < lines.size(); i++) {
            String line = lines.get(i);
            check("line " + (i + 1) + " has what LANGUAGE.md leaves out: " + line.trim(), !banned.matcher(line).find());
            check("line " + (i + 1) + " has a sign that is not 1 to 126", line.chars().allMatch(c -> c > 0 && c < 127));
            classes += line.matches(".*\\bclass \\w+.*") ? 1 : 0;
            Matcher head = method.matcher(line);
            if (head.matches()) {
                start = i;
                indent = head.group(1);
                check("line " + (i + 1) + " has more than seven parameters", line.chars().filter(c -> c == ',').count() < 8);
            } else if (start >= 0 && line.equals(indent + "}")) {
                check("the method on line " + (start + 1) + " is longer than 60 lines", i - start < 60);
                start = -1;
            }
        }
        check("there are more than twelve classes", classes <= 12);
    }

    /** For each method, the methods of the file that its body calls; methods of one name count as one. */
    private static Map<String, Set<String>> callsByMethod() throws IOException {
        Pattern head = Pattern.compile("^(?: {4}| {8})(?:[\\w\\[\\]]+ )+(\\w+)\\(.*\\{$");
        Pattern call = Pattern.compile("\\b(\\w+)\\(");
        Map<String, Set<String>> calls = new TreeMap<>();
        Set<String> open = new TreeSet<>();
        for (String line : sourceWithoutComments()) {
            Matcher start = head.matcher(line);
            if (start.matches()) {
                open = calls.computeIfAbsent(start.group(1), name -> new TreeSet<>());
                continue;
            }
            Matcher inside = call.matcher(line);
            while (inside.find()) {
                open.add(inside.group(1));
            }
        }
        for (Set<String> called : calls.values()) {
            called.retainAll(calls.keySet());
        }
        return calls;
    }

    /** How many calls stand open at most when this one does; far too many if they go round. */
    private static int depth(Map<String, Set<String>> calls, String name, int above) {
        int deepest = 0;
        if (above < 20) {
            for (String called : calls.get(name)) {
                deepest = Math.max(deepest, depth(calls, called, above + 1));
            }
        }
        return 1 + deepest;
    }

    private static void depths() throws IOException {
        Map<String, Set<String>> calls = callsByMethod();
        for (String line : FACE) {
            String name = line.substring(line.indexOf(' ') + 1, line.indexOf('('));
            check("the source has no method " + name, calls.containsKey(name));
            if (calls.containsKey(name)) {
                int depth = depth(calls, name, 0);
                check(name + " goes " + depth + " calls deep", depth <= 8);
            }
        }
    }

    private static void fields() {
        List<Class<?>> all = new ArrayList<>(Arrays.asList(VoteLogs.class.getDeclaredClasses()));
        all.add(VoteLogs.class);
        for (Class<?> one : all) {
            int count = 0;
            for (Field field : one.getDeclaredFields()) {
                count += Modifier.isStatic(field.getModifiers()) ? 0 : 1;
            }
            check(one + " has " + count + " fields", count <= 20);
        }
    }

    public static void main(String[] args) throws Exception {
        face();
        language();
        depths();
        fields();
        System.out.println(wrong == 0 ? "the face and the language are as due" : wrong + " things are not as due");
        if (wrong != 0) {
            System.exit(1);
        }
    }
}
