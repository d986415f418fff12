import java.lang.reflect.Constructor;
import java.lang.reflect.Field;
import java.lang.reflect.Method;
import java.lang.reflect.Modifier;
import java.nio.file.Files;
import java.nio.file.Path;
import java.util.Arrays;
import java.util.List;
import java.util.Set;
import java.util.TreeSet;
import java.util.regex.Matcher;
import java.util.regex.Pattern;

/** The document's public face, and what of LANGUAGE.md can be seen without reading. */
public final class FaceTest {
    private static final String FACE = "int feed(int,int,int,int,int);int split(int);int fault();int where();int about(int);"
        + "int venue(int,int);int level(int,int,int);int charge(int,int);int cost(int,int);int under(int,int);"
        + "int units(int);int best(int);int share(int,int);int bound(int);int margin(int);int gap(int);"
        + "int greedy(int,int);int worth(int,int);int fewest(int);int plan(int,int);int planned(int);int move();"
        + "int now(int);int part(int,int);int entries();int entry(int,int);int bought(int,int);int will(int);"
        + "int adopt(int);int fee(int,int);int resize(int,int,int);int order(int);int begin();int ticks(int);"
        + "int call(int);boolean keep();boolean back();int dry(int);int size(int);int trouble()";

    public static void main(String[] args) throws Exception {
        methods();
        members();
        classesInside();
        source(Files.readString(Path.of(args.length > 0 ? args[0] : "src/main/java/OrderSplit.java")));
        Checks.end("FaceTest");
    }

    private static void methods() {
        Set<String> want = new TreeSet<>(List.of(FACE.split(";")));
        Set<String> got = new TreeSet<>();
        for (Method m : OrderSplit.class.getDeclaredMethods()) {
            if (!Modifier.isPrivate(m.getModifiers())) {
                String types = Arrays.toString(m.getParameterTypes()).replaceAll("[\\[\\] ]", "");
                got.add(m.getReturnType() + " " + m.getName() + "(" + types + ")");
                Checks.is(m.getName() + " is public, no more", m.getModifiers(), Modifier.PUBLIC);
            }
        }
        Checks.is("the methods are " + got, got.equals(want), true);
    }

    private static void members() throws Exception {
        Checks.is("the class", OrderSplit.class.getModifiers(), Modifier.PUBLIC | Modifier.FINAL);
        Constructor<?>[] made = OrderSplit.class.getDeclaredConstructors();
        Checks.is("constructors", made.length, 1);
        Checks.is("the constructor", made[0].getModifiers(), Modifier.PUBLIC);
        Checks.is("its parameters", made[0].getParameterCount(), 0);
        for (Field f : OrderSplit.class.getDeclaredFields()) {
            boolean none = f.getName().equals("NONE");
            Checks.is(f.getName() + " is private", Modifier.isPrivate(f.getModifiers()), !none);
        }
        Checks.is("NONE", OrderSplit.NONE, -1);
        Field none = OrderSplit.class.getField("NONE");
        Checks.is("of NONE", none.getModifiers(), Modifier.PUBLIC | Modifier.STATIC | Modifier.FINAL);
    }

    private static void classesInside() {
        Class<?>[] inside = OrderSplit.class.getDeclaredClasses();
        Checks.is("some twelve classes", inside.length <= 12, true);
        for (Class<?> c : inside) {
            Checks.is(c + " is private and static",
                c.getModifiers() & (Modifier.PRIVATE | Modifier.STATIC), Modifier.PRIVATE | Modifier.STATIC);
            int fields = 0;
            for (Field f : c.getDeclaredFields()) {
                Checks.is(f + " static only if final", !Modifier.isStatic(f.getModifiers())
                    || Modifier.isFinal(f.getModifiers()), true);
                fields += Modifier.isStatic(f.getModifiers()) ? 0 : 1;
            }
            Checks.is(c + " has some twenty fields", fields <= 20, true);
            for (Method m : c.getDeclaredMethods()) {
                Checks.is(m + " has a name of its own", (";" + FACE).contains(" " + m.getName() + "("), false);
                Checks.is(m + " takes at most seven", m.getParameterCount() <= 7, true);
            }
        }
        for (Method m : OrderSplit.class.getDeclaredMethods()) {
            if (Modifier.isPrivate(m.getModifiers())) {
                Checks.is(m + " has a name of its own", (";" + FACE).contains(" " + m.getName() + "("), false);
            }
        }
    }

    private static void source(String text) {
        String code = text.replaceAll("(?s)/\\*.*?\\*/", "").replaceAll("//[^\n]*", "");
        for (String word : List.of("->", "::", "catch", "try", "finally", "synchronized", "assert", "package", "volatile",
            "instanceof", "Object", "Exact", "protected", "double", "float")) {
            Checks.is("no " + word, Pattern.compile("(?<!\\w)" + Pattern.quote(word) + "(?!\\w)").matcher(code).find(), false);
        }
        Matcher imports = Pattern.compile("import ([^;]*);").matcher(code);
        while (imports.find()) {
            Checks.is("import " + imports.group(1), imports.group(1).equals("java.util.NoSuchElementException"), true);
        }
        Matcher thrown = Pattern.compile("throw new (\\w+)").matcher(code);
        while (thrown.find()) {
            Checks.is("throw " + thrown.group(1), thrown.group(1).equals("NoSuchElementException"), true);
        }
        for (char c : text.toCharArray()) {
            if (c != '\n' && (c < 32 || c > 126)) {
                Checks.is("a sign of the source", c, 32);
            }
        }
        // no object is made but in fields' initialisers and the throw
        Matcher news = Pattern.compile("(?m)^(.*)\\bnew\\b").matcher(code);
        while (news.find()) {
            String line = news.group(1);
            Checks.is("new in a field or a throw: " + line, line.contains("= ") && line.matches("    (    )?(private )?(final )?\\S+ .*")
                || line.contains("throw"), true);
        }
        methodsAreShort(code);
    }

    private static void methodsAreShort(String code) {
        int from = 0;
        String[] lines = code.split("\n");
        for (int i = 0; i < lines.length; i++) {
            if (lines[i].matches("    (    )?\\w[^=;]*\\) (throws \\w+ )?\\{")) {
                from = i;
            }
            if (lines[i].matches("    (    )?\\}")) {
                Checks.is("a method of sixty lines at most, from " + lines[from], i - from <= 60, true);
            }
        }
    }
}
