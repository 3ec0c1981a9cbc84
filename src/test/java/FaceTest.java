import java.io.IOException;
import java.lang.reflect.Constructor;
import java.lang.reflect.Field;
import java.lang.reflect.Method;
import java.lang.reflect.Modifier;
import java.nio.charset.StandardCharsets;
import java.nio.file.Files;
import java.nio.file.Path;
import java.util.Set;
import java.util.TreeSet;
import java.util.regex.Matcher;
import java.util.regex.Pattern;

/** The public face of the document, and the rules of the language that the text itself shows. */
public final class FaceTest {
    private static final Checks C = new Checks();
    private static final String SOURCE = "src/main/java/AskedIn.java";
    private static final int MOST_LINES = 60, MOST_CLASSES = 12, MOST_FIELDS = 20, MOST_PARAMETERS = 7;
    private static final String FACE = "int house(int,int,int);int folk(int,int,int);int of(int,int);int who(int,int);"
        + "int strew(int,int);int ask(int,int,boolean);int sack(int,int);int sell(int,int,int);int row(int,int,int);"
        + "int feed(int);int town();int dawn();int visit(int,int,int);int way(int);int goes(int,int);"
        + "int round(int,int,int);int keep(int,int);int more(int,int);int share(int,int,int,int);"
        + "int watch(int,boolean);int suspects();int next();int when(int,int);long odds(int,int,int);"
        + "long mean(int,int);int book(int,int);int looked();int judge(int,int);int image();int undo();"
        + "int act(int,int,int);int trace(int);int taken(int,int);int count(int);int tape(int,int,int);"
        + "int item(int,int,long);long read(int,int);int shift(int,int,int,int,int)";

    public static void main(String[] args) throws IOException {
        methods();
        fieldsAndClasses();
        text(Files.readString(Path.of(SOURCE), StandardCharsets.ISO_8859_1));
        C.end("FaceTest");
    }

    private static void methods() {
        Set<String> due = new TreeSet<>(Set.of(FACE.split(";")));
        Set<String> names = new TreeSet<>();
        for (String one : due) {
            names.add(one.substring(one.indexOf(' ') + 1, one.indexOf('(')));
        }
        Set<String> seen = new TreeSet<>();
        for (Method method : AskedIn.class.getDeclaredMethods()) {
            StringBuilder all = new StringBuilder(method.getReturnType() + " " + method.getName() + "(");
            for (Class<?> parameter : method.getParameterTypes()) {
                all.append(all.charAt(all.length() - 1) == '(' ? "" : ",").append(parameter);
            }
            if (Modifier.isPrivate(method.getModifiers())) {
                C.due("private " + method.getName() + " has a name of its own", !names.contains(method.getName()));
            } else {
                C.due(all + ") is public, no more", method.getModifiers() == Modifier.PUBLIC);
                seen.add(all + ")");
            }
        }
        C.due("the methods " + seen, due.equals(seen));
        Constructor<?>[] constructors = AskedIn.class.getDeclaredConstructors();
        C.due("one constructor", constructors.length, 1);
        C.due("it takes nothing", constructors[0].getParameterCount(), 0);
        C.due("it is public", Modifier.isPublic(constructors[0].getModifiers()));
    }

    private static void fieldsAndClasses() {
        C.due("public and final", AskedIn.class.getModifiers() == (Modifier.PUBLIC | Modifier.FINAL));
        Set<String> seen = new TreeSet<>();
        for (Field field : AskedIn.class.getDeclaredFields()) {
            if (!Modifier.isPrivate(field.getModifiers())) {
                seen.add(field.getType() + " " + field.getName());
            }
        }
        C.due("the constants " + seen, seen.equals(Set.of("int NONE", "int BAD", "int STATE", "int FULL", "long NO")));
        Class<?>[] inside = AskedIn.class.getDeclaredClasses();
        C.due("classes", inside.length < MOST_CLASSES);
        one(AskedIn.class);
        for (Class<?> each : inside) {
            C.due(each + " is static", Modifier.isStatic(each.getModifiers()));
            C.due(each + " is not public", (each.getModifiers() & (Modifier.PUBLIC | Modifier.PROTECTED)) == 0);
            one(each);
        }
    }

    private static void one(Class<?> each) {
        int own = 0;
        for (Field field : each.getDeclaredFields()) {
            own += Modifier.isStatic(field.getModifiers()) ? 0 : 1;
            if (Modifier.isStatic(field.getModifiers())) {
                C.due(field + " is final", Modifier.isFinal(field.getModifiers()));
            }
        }
        C.due(each + " has few fields", own <= MOST_FIELDS);
        for (Method method : each.getDeclaredMethods()) {
            C.due(method + " takes few", method.getParameterCount() <= MOST_PARAMETERS);
        }
    }

    private static void text(String whole) {
        for (int i = 0; i < whole.length(); i++) {
            if (whole.charAt(i) > 126) {
                C.due("sign " + (int) whole.charAt(i) + " at " + i, false);
            }
        }
        String code = whole.replaceAll("(?s)/\\*.*?\\*/", "").replaceAll("//[^\\n]*", "")
            .replaceAll("\"[^\"\\n]*\"", "\"\"").replaceAll("'[^'\\n]+'", "' '");
        String[] never = {"throw", "throws", "try", "catch", "finally", "synchronized", "assert", "instanceof", "package",
            "var", "yield", "Object", "System\\.(?!arraycopy)\\w+", "\\w+Exact", "float", "double", "Thread", "Random"};
        for (String word : never) {
            Matcher found = Pattern.compile("\\b" + word + "\\b").matcher(code);
            C.due("no " + word, !found.find());
        }
        C.due("no lambda or arrow", !code.contains("->"));
        C.due("no method reference", !code.contains("::"));
        Matcher imports = Pattern.compile("import ([^;]+);").matcher(code);
        while (imports.find()) {
            C.due("import " + imports.group(1), imports.group(1).equals("java.util.Arrays"));
        }
        Matcher made = Pattern.compile("(?m)^(.*)\\bnew\\b.*$").matcher(code);
        while (made.find()) {
            String ahead = made.group(1);
            boolean inConstructor = ahead.matches(" {12}(firsts|seconds|night) = ")
                || ahead.matches(" {8}(Street street|Towns readTowns|questions) = ");
            C.due("made by a constructor: " + made.group(), ahead.startsWith("    private final ")
                || ahead.matches(" {8}(private )?final .*") || inConstructor);
        }
        lengths(code);
    }

    /** Methods stay short: from a head that opens a block to the bracket that stands below it. */
    private static void lengths(String code) {
        String[] lines = code.split("\n");
        for (int i = 0; i < lines.length; i++) {
            Matcher head = Pattern.compile("^( {4}| {8})(?! )[\\w\\[\\]. ]+\\(.*\\{$").matcher(lines[i]);
            if (!head.matches()) {
                continue;
            }
            int end = i;
            while (!lines[end].equals(head.group(1) + "}")) {
                end++;
            }
            C.due("short: " + lines[i].trim(), end - i < MOST_LINES);
        }
    }
}
