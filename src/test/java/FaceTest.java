import java.io.IOException;
import java.lang.reflect.Constructor;
import java.lang.reflect.Field;
import java.lang.reflect.Method;
import java.lang.reflect.Modifier;
import java.nio.file.Files;
import java.nio.file.Path;
import java.util.ArrayList;
import java.util.List;
import java.util.TreeSet;
import java.util.regex.Matcher;
import java.util.regex.Pattern;

/**
 * The public face: the names, parameters, answers and throws clauses of the document, and no other member in sight; in
 * the source, the order of the calls and what the interface says ahead of them.
 */
public final class FaceTest {
    private static final String A = " IllegalArgumentException";
    private static final String S = " IllegalStateException";

    public static void main(String[] args) throws IOException {
        Checks checks = new Checks("FaceTest");
        checks.due("modifiers", Modifier.PUBLIC | Modifier.FINAL, MarkdownPlanner.class.getModifiers());
        checks.due("package", "", MarkdownPlanner.class.getPackageName());

        TreeSet<String> want = new TreeSet<>();
        want.add("public ()");
        want.add("int begin(int)" + A);
        want.add("int setPrice(int int)" + A + S);
        want.add("int setDemand(int int int)" + A);
        want.add("void setRules(int int int)" + A);
        want.add("int put(int int int)" + A + S);
        want.add("int markDown(int int)" + A + S);
        want.add("int move(int int int int)" + A + S);
        want.add("int run()" + S);
        want.add("int week()");
        want.add("int stock(int int)" + A);
        want.add("int step(int)" + A);
        want.add("int weeksToWait(int)" + A);
        want.add("int sold(int)" + A);
        want.add("int taken()");
        want.add("int wouldSell(int int)" + A);
        want.add("int best(int)" + A);
        want.add("int bestByAll(int)" + A + S);
        want.add("int planned(int int)" + A);
        want.add("int bestLeaving(int int)" + A);
        checks.due("face", want.toString(), faceOf(MarkdownPlanner.class).toString());
        checks.due("rules 1 and 5 of LANGUAGE.md", "[]", outsideTheLanguage().toString());
        asTheDocumentWritesIt(checks);
        checks.end();
    }

    /** The interface as the document writes it, line by line, with what it says ahead of its calls. */
    private static void asTheDocumentWritesIt(Checks checks) throws IOException {
        String document = Files.readString(Path.of("../shared/DOC.md"));
        String source = Source.text();
        int before = 0;
        int lines = 0;
        for (String line : document.split("```")[1].split("\n")) {
            if (line.startsWith("public ") || line.startsWith("    public ")) {
                int at = source.indexOf("\n" + line.replace(";", " {") + "\n");
                checks.due(line + " in its place", 1, at > before ? 1 : 0);
                if (line.contains("(")) {
                    saidAhead(checks, document, source, line, at);
                }
                before = at;
                lines++;
            }
        }
        checks.due("the class, its constructor and its calls", 2 + Calls.NAMES.length, lines);
    }

    /** "Ahead of the calls .. the interface says: ---- setting up.", and so on. */
    private static void saidAhead(Checks checks, String document, String source, String line, int at) {
        String name = line.replaceFirst("\\(.*", "").replaceFirst(".* ", "");
        Matcher told = Pattern.compile("Ahead of the calls [^.]*`" + name + "`[^.]*: (---- .*)\\.").matcher(document);
        String want = told.find() ? "// " + told.group(1) : "";
        int said = at < 0 ? -1 : source.lastIndexOf("// ---- ", at);
        checks.due("ahead of " + name, want, said < 0 ? "" : source.substring(said, source.indexOf('\n', said)));
    }

    /** Private methods with a public one's name, classes inside that are not static, and static state. */
    private static TreeSet<String> outsideTheLanguage() {
        TreeSet<String> publicNames = new TreeSet<>();
        TreeSet<String> found = new TreeSet<>();
        for (Method method : MarkdownPlanner.class.getDeclaredMethods()) {
            if (Modifier.isPublic(method.getModifiers())) {
                publicNames.add(method.getName());
            }
        }
        ArrayList<Class<?>> types = new ArrayList<>(List.of(MarkdownPlanner.class.getDeclaredClasses()));
        for (Class<?> inside : types) {
            if (!Modifier.isStatic(inside.getModifiers()) || Modifier.isPublic(inside.getModifiers())) {
                found.add("class " + inside.getSimpleName());
            }
        }
        types.add(MarkdownPlanner.class);
        for (Class<?> type : types) {
            for (Method method : type.getDeclaredMethods()) {
                if (!Modifier.isPublic(method.getModifiers()) && publicNames.contains(method.getName())) {
                    found.add("method " + method.getName() + " of " + type.getSimpleName());
                }
            }
            for (Field field : type.getDeclaredFields()) {
                if (Modifier.isStatic(field.getModifiers()) && !Modifier.isFinal(field.getModifiers())) {
                    found.add("field " + field.getName() + " of " + type.getSimpleName());
                }
            }
        }
        return found;
    }

    private static TreeSet<String> faceOf(Class<?> type) {
        TreeSet<String> face = new TreeSet<>();
        for (Constructor<?> made : type.getDeclaredConstructors()) {
            face.add(Modifier.toString(made.getModifiers()) + " " + list(made.getParameterTypes(), "(", ")")
                    + list(made.getExceptionTypes(), "", ""));
        }
        for (Method method : type.getDeclaredMethods()) {
            if (!Modifier.isPrivate(method.getModifiers())) {
                String clause = list(method.getExceptionTypes(), "", "");
                face.add(method.getReturnType().getSimpleName() + " " + method.getName()
                        + list(method.getParameterTypes(), "(", ")") + (clause.isEmpty() ? "" : " " + clause));
            }
        }
        for (Field field : type.getDeclaredFields()) {
            if (!Modifier.isPrivate(field.getModifiers())) {
                face.add("field " + field.getName());
            }
        }
        return face;
    }

    private static String list(Class<?>[] types, String open, String close) {
        StringBuilder text = new StringBuilder(open);
        for (int i = 0; i < types.length; i++) {
            text.append(i == 0 ? "" : " ").append(types[i].getSimpleName());
        }
        return text.append(close).toString();
    }
}
