import java.lang.reflect.Constructor;
import java.lang.reflect.Method;
import java.lang.reflect.Modifier;
import java.nio.charset.StandardCharsets;
import java.nio.file.Files;
import java.nio.file.Path;
import java.util.Arrays;
import java.util.List;
import java.util.Set;
import java.util.TreeSet;

/** The public face, and what of ../shared/LANGUAGE.md the class and its text alone can tell. */
public final class FaceTests {
    private static final String FACE =
        "int mark(int,int,int,int);int markIs(int,int);int become(int,int);int as(int,int);int measure(int,int);"
        + "int on(int,int);int pictures(int);int limit(int);int feed(long,int);int text(int);int untell(int);"
        + "int law(int,int,int,int);int rounds(int);int loose(int);int round(int);int seed(int);long place(int,int);"
        + "long miss(int,int);long sum(int);int doubted();int needed();int spine();int then(int,int);int soonest(int);"
        + "int limitFor(int);int toldFor(int);int odds(int,int,int);int fits(int,int,int);int voice(int,int,int);"
        + "int body(int);int sheet(int,int,int);int put(int,int,int);int move(int,int,int,int,int);int tells(int);"
        + "int judge(int);int image();int restore();int tell(int);int check();int count(int);int told(int)";
    private static final Checks c = new Checks();

    public static void main(String[] args) throws Exception {
        face();
        privateNames();
        fields();
        String text = Files.readString(Path.of("src/main/java/PictureBlock.java"), StandardCharsets.UTF_8);
        List<String> lines = Arrays.asList(text.split("\n"));
        words(lines);
        madeOnce(lines);
        c.finish();
    }

    private static void face() {
        c.begin("the face is the document's and nothing else");
        Set<String> got = new TreeSet<>();
        for (Method method : PictureBlock.class.getDeclaredMethods()) {
            if (!Modifier.isPrivate(method.getModifiers())) {
                c.holds(method + " is of an object", !Modifier.isStatic(method.getModifiers()));
                got.add(signature(method));
            }
        }
        Set<String> due = new TreeSet<>(Arrays.asList(FACE.split(";")));
        c.holds("methods " + got, got.equals(due));
        c.due("how many", got.size(), 41);
        Constructor<?>[] made = PictureBlock.class.getDeclaredConstructors();
        c.holds("one constructor", made.length == 1 && made[0].getParameterCount() == 0 && Modifier.isPublic(made[0].getModifiers()));
        c.holds("public and final", Modifier.isPublic(PictureBlock.class.getModifiers()) && Modifier.isFinal(PictureBlock.class.getModifiers()));
    }

    private static String signature(Method method) {
        StringBuilder types = new StringBuilder();
        for (Class<?> type : method.getParameterTypes()) {
            types.append(types.length() == 0 ? "" : ",").append(type);
        }
        return method.getReturnType() + " " + method.getName() + "(" + types + ")";
    }

    private static void privateNames() {
        c.begin("no private method bears the name of a public one");
        Set<String> names = new TreeSet<>();
        for (Method method : PictureBlock.class.getDeclaredMethods()) {
            if (Modifier.isPublic(method.getModifiers())) {
                names.add(method.getName());
            }
        }
        check(PictureBlock.class, names);
        for (Class<?> inside : PictureBlock.class.getDeclaredClasses()) {
            c.holds(inside + " is private and static", Modifier.isPrivate(inside.getModifiers()) && Modifier.isStatic(inside.getModifiers()));
            check(inside, names);
        }
    }

    private static void check(Class<?> in, Set<String> names) {
        for (Method method : in.getDeclaredMethods()) {
            c.holds(method.toString(), Modifier.isPublic(method.getModifiers()) || !names.contains(method.getName()));
            c.holds(method + " takes at most seven", method.getParameterCount() <= 7);
        }
    }

    private static void fields() {
        c.begin("fields are private, static ones final");
        for (Class<?> in : new Class<?>[] {PictureBlock.class}) {
            fieldsOf(in);
            for (Class<?> inside : in.getDeclaredClasses()) {
                fieldsOf(inside);
            }
        }
    }

    private static void fieldsOf(Class<?> in) {
        int own = 0;
        for (java.lang.reflect.Field field : in.getDeclaredFields()) {
            int is = field.getModifiers();
            c.holds(field + " is private", Modifier.isPrivate(is));
            c.holds(field + " is final if static", !Modifier.isStatic(is) || Modifier.isFinal(is));
            own += Modifier.isStatic(is) ? 0 : 1;
        }
        c.holds(in + " has some twenty fields", own <= 20);
    }

    private static void words(List<String> lines) {
        c.begin("words and signs that the language leaves out");
        String[] out = {"throw", "try", "catch", "synchronized", "assert", "import", "package", "var", "protected", "Exact", "while"};
        for (String line : lines) {
            String code = code(line);
            for (String word : out) {
                c.holds("no " + word + ": " + line, !code.matches(".*\\b" + word + "\\b.*"));
            }
            c.holds("no lambda, no method reference: " + line, !code.contains("->") && !code.contains("::"));
            c.holds("signs 1 to 127: " + line, line.chars().allMatch(sign -> sign > 0 && sign < 128));
        }
    }

    /** A line without what it says in a comment. */
    private static String code(String line) {
        String bare = line.trim();
        if (bare.startsWith("*") || bare.startsWith("/*") || bare.startsWith("//")) {
            return "";
        }
        return bare;
    }

    /** All calls of a run live in one room: no call makes an object. */
    private static void madeOnce(List<String> lines) {
        c.begin("objects and rows are made in fields alone");
        for (String line : lines) {
            String code = code(line);
            c.holds(line, !code.matches(".*\\bnew\\b.*") || code.startsWith("private final "));
            c.holds(line, !code.contains("clone(") && !code.contains("substring(") && !code.contains("Arrays."));
        }
    }
}
