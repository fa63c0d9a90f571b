import java.io.IOException;
import java.lang.reflect.Constructor;
import java.lang.reflect.Field;
import java.lang.reflect.Method;
import java.lang.reflect.Modifier;
import java.nio.file.Files;
import java.nio.file.Path;
import java.util.Arrays;
import java.util.List;
import java.util.Set;
import java.util.TreeSet;
import java.util.regex.Matcher;
import java.util.regex.Pattern;

/** What of the document's face and of LANGUAGE.md can be seen from the class and its source. */
public final class LanguageTest {
    private static final Path SOURCE = Path.of("src/main/java/SugarKitchen.java");

    private static final List<String> FACE = List.of(
        "int lot(int,int)", "int batch(int)", "int put(int,int,int)", "boolean row(int,int,int)",
        "boolean tick(int,int,int)", "boolean stir(int,int,boolean)", "int table(int,int)",
        "boolean grain(int,int)", "boolean bounds(int,int,int)", "int cook(int,int)",
        "boolean vouch(int)", "int why(int)", "int batchOf(int,int)",
        "boolean temper(int,int,int,int,int,int)", "int heat(int,int)", "int cut(int,int,int)",
        "int dip(int,int,int)", "boolean place(int,int,int)", "boolean take(int)",
        "boolean allow(int)", "int pieceOf(int,int)", "int at(int,int)", "int pack(int,int,int)",
        "int would(int,int,int,int)", "int boxOf(int,int)", "boolean wash(int,int,int)",
        "int queue(int)", "int order(boolean,int)", "int recall(int,int,int)", "int about(int)",
        "int left(int)");

    private static final List<String> FORBIDDEN = List.of(
        "\\bthrow\\b", "\\btry\\b", "\\bcatch\\b", "\\bfinally\\b", "\\bassert\\b", "\\bsynchronized\\b",
        "->", "::", "\\bpackage\\b", "\\bFloat\\.", "\\bDouble\\.", "\\bSystem\\.(?!arraycopy)",
        "\\b\\w+Exact\\b", "\\bInteger\\.M", "\\bLong\\.M", "\\bthread\\b", "\\bObject\\b", "\\bvar\\b",
        "\\bimport (?!java\\.util\\.Arrays;)", "\\bstatic \\{", "@");

    private static int wrong;

    private static void must(boolean holds, String what) {
        if (!holds) {
            wrong++;
            System.out.println("language: " + what);
        }
    }

    public static void main(String[] args) throws IOException {
        face();
        members();
        source(Files.readString(SOURCE));
        System.out.println("language: " + wrong + " things not as they must be");
        if (wrong != 0) {
            System.exit(1);
        }
    }

    private static void face() {
        Class<?> kitchen = SugarKitchen.class;
        must(Modifier.isPublic(kitchen.getModifiers()) && Modifier.isFinal(kitchen.getModifiers()),
                "the class is public and final");
        Set<String> shown = new TreeSet<>();
        Set<String> names = new TreeSet<>();
        for (Method method : kitchen.getDeclaredMethods()) {
            if (!Modifier.isPrivate(method.getModifiers())) {
                must(Modifier.isPublic(method.getModifiers()), "visible method " + method);
                shown.add(signature(method));
                names.add(method.getName());
            }
        }
        must(shown.equals(new TreeSet<>(FACE)), "the public methods are " + shown);
        for (Class<?> type : allClasses()) {
            for (Method method : type.getDeclaredMethods()) {
                must(type == kitchen && Modifier.isPublic(method.getModifiers())
                        || !names.contains(method.getName()), "a public name again: " + method);
            }
        }
        for (Field field : kitchen.getDeclaredFields()) {
            must(Modifier.isPrivate(field.getModifiers()) || field.getName().equals("NONE"),
                    "visible field " + field);
        }
        Constructor<?>[] made = kitchen.getDeclaredConstructors();
        must(made.length == 1 && Modifier.isPublic(made[0].getModifiers())
                && made[0].getParameterCount() == 0, "one public constructor without arguments");
        must(SugarKitchen.NONE == -1, "NONE is -1");
    }

    private static String signature(Method method) {
        StringBuilder text = new StringBuilder();
        text.append(method.getReturnType()).append(' ').append(method.getName()).append('(');
        for (Class<?> type : method.getParameterTypes()) {
            text.append(text.charAt(text.length() - 1) == '(' ? "" : ",").append(type);
        }
        return text.append(')').toString();
    }

    private static Class<?>[] allClasses() {
        Class<?>[] inside = SugarKitchen.class.getDeclaredClasses();
        Class<?>[] all = Arrays.copyOf(inside, inside.length + 1);
        all[inside.length] = SugarKitchen.class;
        return all;
    }

    private static void members() {
        must(allClasses().length <= 12, "some twelve classes at most");
        for (Class<?> type : allClasses()) {
            int own = 0;
            for (Field field : type.getDeclaredFields()) {
                boolean constant = Modifier.isStatic(field.getModifiers());
                must(!constant || Modifier.isFinal(field.getModifiers()), "changing static " + field);
                own += constant ? 0 : 1;
            }
            must(own <= 20, "some twenty fields at most in " + type);
            must(Modifier.isStatic(type.getModifiers()) || type == SugarKitchen.class, "static: " + type);
            for (Method method : type.getDeclaredMethods()) {
                must(method.getParameterCount() <= 7, "parameters of " + method);
            }
        }
    }

    private static void source(String text) {
        String code = text.replaceAll("(?s)/\\*.*?\\*/", "").replaceAll("//[^\n]*", "");
        for (String word : FORBIDDEN) {
            Matcher found = Pattern.compile(word).matcher(code);
            must(!found.find(), "forbidden: " + word);
        }
        String[] lines = text.split("\n");
        int start = 0;
        for (int i = 0; i < lines.length; i++) {
            must(lines[i].length() <= 110, "a long line: " + (i + 1));
            if (lines[i].matches(" {4,8}\\S.*\\) \\{")) {
                start = i;
            }
            if (lines[i].matches(" {4,8}\\}")) {
                must(i - start <= 60, "a long method ends at line " + (i + 1));
                start = i;
            }
        }
    }
}
