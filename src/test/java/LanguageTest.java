import java.io.IOException;
import java.lang.reflect.Constructor;
import java.lang.reflect.Field;
import java.lang.reflect.Method;
import java.lang.reflect.Modifier;
import java.nio.file.Files;
import java.nio.file.Path;
import java.util.ArrayList;
import java.util.Arrays;
import java.util.Collections;
import java.util.List;
import java.util.Set;
import java.util.TreeSet;
import java.util.regex.Matcher;
import java.util.regex.Pattern;

/** The face of the class, and rules of LANGUAGE.md that can be seen in the text or by reflection. */
public final class LanguageTest {
    private static final Checks c = new Checks("LanguageTest");
    private static final String[] FACE = {
        "int act(int,int,int)", "int age(int,int)", "int bars(int,int)", "int best()", "int body(int)",
        "int chance(int,int,int)", "int chosen(int)", "int count(int)", "int dot(int,int)", "int dots(int,int,int)",
        "int father(int,int)", "int feed(int,int)", "int fight(int,int)", "int hangs(int)", "int hole(int,int)",
        "int inks(int,int)", "int keep(int,int)", "int late(int,int)", "int led(int,int)", "int line(int,int)",
        "int made(int,int)", "int map(int,int)", "int mark(int,int)", "int mean(int)", "int mend(int,int)",
        "int next(int,int)", "int odd(int)", "int odds(int,int)", "int orders(int,int)", "int place(int,int,int)",
        "int prior(int,int)", "int put(int,int,long)", "int redo()", "int row(int,int,int)", "int shared(int)",
        "int sheet(int)", "int shift(int,int,int,int,int)", "int side(int,int,int)", "int story(int,int)",
        "int taken(int,int)", "int trace(int)", "int undo()", "int well(int,int,int)", "int without(int,int)",
        "int worms(int,int)", "long element(int,int)",
    };

    public static void main(String[] args) throws Exception {
        theFace();
        constants();
        classesInside();
        theText();
        c.end();
    }

    private static String head(Method m) {
        List<String> types = new ArrayList<>();
        for (Class<?> t : m.getParameterTypes()) {
            types.add(t.getName());
        }
        return m.getReturnType().getName() + " " + m.getName() + "(" + String.join(",", types) + ")";
    }

    private static void theFace() {
        c.due("public", Modifier.isPublic(OlderSkin.class.getModifiers()));
        c.due("final", Modifier.isFinal(OlderSkin.class.getModifiers()));
        List<String> heads = new ArrayList<>();
        Set<String> names = new TreeSet<>();
        for (Method m : Draws.publicCalls()) {
            heads.add(head(m));
            names.add(m.getName());
        }
        Collections.sort(heads);
        List<String> due = new ArrayList<>(Arrays.asList(FACE));
        Collections.sort(due);
        c.due("heads are " + heads, heads.equals(due));
        for (Method m : OlderSkin.class.getDeclaredMethods()) {
            boolean open = Modifier.isPublic(m.getModifiers());
            c.due(m + " is public or private", open || Modifier.isPrivate(m.getModifiers()));
            c.due(m + " has a name of its own", open || !names.contains(m.getName()));
        }
        Constructor<?>[] made = OlderSkin.class.getDeclaredConstructors();
        c.due("constructors", made.length, 1);
        c.due("constructor's numbers", made[0].getParameterCount(), 0);
        c.due("constructor is public", Modifier.isPublic(made[0].getModifiers()));
    }

    private static void constants() {
        c.due("BAD", OlderSkin.BAD, -1);
        c.due("NOT", OlderSkin.NOT, -2);
        c.due("FULL", OlderSkin.FULL, -3);
        c.due("BIG", OlderSkin.BIG, -4);
        c.due("STATE", OlderSkin.STATE, -5);
        c.due("VOID", OlderSkin.VOID, -2000000000);
        int open = 0;
        for (Field f : OlderSkin.class.getDeclaredFields()) {
            boolean isPublic = Modifier.isPublic(f.getModifiers());
            open += isPublic ? 1 : 0;
            c.due(f + " is public or private", isPublic || Modifier.isPrivate(f.getModifiers()));
        }
        c.due("public constants", open, 6);
    }

    private static void classesInside() {
        List<Class<?>> all = new ArrayList<>(Arrays.asList(OlderSkin.class.getDeclaredClasses()));
        all.add(OlderSkin.class);
        c.due("classes: " + all.size(), all.size() <= 12);
        for (Class<?> type : all) {
            c.due(type + " is static or the whole", type == OlderSkin.class || Modifier.isStatic(type.getModifiers()));
            c.due(type + " has none inside", type == OlderSkin.class || type.getDeclaredClasses().length == 0);
            int fields = 0;
            for (Field f : type.getDeclaredFields()) {
                boolean isStatic = Modifier.isStatic(f.getModifiers());
                c.due(f + " is final, if static", !isStatic || Modifier.isFinal(f.getModifiers()));
                fields += isStatic ? 0 : 1;
            }
            c.due(type + " has few fields: " + fields, fields <= 20);
            for (Method m : type.getDeclaredMethods()) {
                c.due(m + " takes seven at most", m.getParameterCount() <= 7);
                c.due(m + " is no helper of the compiler", !m.isSynthetic());
            }
        }
    }

    private static void theText() throws IOException {
        String text = Files.readString(Path.of("src/main/java/OlderSkin.java"));
        String code = text.replaceAll("(?s)/\\*.*?\\*/", "").replaceAll("//[^\n]*", "");
        String[] banned = {"throw", "throws", "try", "catch", "synchronized", "assert", "native", "package",
            "double", "float", "Object", "hashCode", "toString", "var", "goto", "System\\.out", "Random", "Thread"};
        for (String word : banned) {
            c.due("no " + word, !Pattern.compile("\\b" + word + "\\b").matcher(code).find());
        }
        c.due("no lambda", !code.contains("->"));
        c.due("no method reference", !code.contains("::"));
        c.due("no Exact", !code.contains("Exact"));
        c.due("no static block", !code.contains("static {"));
        Matcher imports = Pattern.compile("import ([^;]+);").matcher(code);
        while (imports.find()) {
            c.due("import of " + imports.group(1), imports.group(1).equals("java.util.Arrays"));
        }
        c.due("signs are 1 to 127", text.chars().allMatch(sign -> sign >= 1 && sign < 128));
        shortMethods(code);
    }

    private static void shortMethods(String code) {
        int begun = -1;
        int at = 0;
        for (String line : code.split("\n")) {
            at++;
            boolean begins = line.matches("    (    )?(public|private|static|final|int|long|void|boolean).*\\) \\{");
            begun = begins ? at : begun;
            if (begun > 0 && line.matches("    (    )?}")) {
                c.due("lines of the method at " + begun, at - begun <= 60);
                begun = -1;
            }
        }
    }
}
