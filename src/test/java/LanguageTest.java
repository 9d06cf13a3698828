import java.lang.reflect.Field;
import java.lang.reflect.Method;
import java.lang.reflect.Modifier;
import java.nio.file.Files;
import java.nio.file.Path;
import java.util.ArrayList;
import java.util.List;
import java.util.regex.Matcher;
import java.util.regex.Pattern;

/** Looks through the source for what ../shared/LANGUAGE.md leaves out, as far as words show it. */
public final class LanguageTest {
    private static int wrong = 0;

    public static void main(String[] args) throws Exception {
        String source = Files.readString(Path.of("src/main/java/ParcelDesk.java"));
        String code = source.replaceAll("(?s)/\\*.*?\\*/", "").replaceAll("//.*", "")
            .replaceAll("\"[^\"\n]*\"", "TEXT").replaceAll("'.'", "SIGN");
        none(code, "\\b(import|package|synchronized|assert|finally|throw|throws|try|catch|yield)\\b");
        none(code, "\\b(record|instanceof|var|sealed|permits|protected|volatile|transient)\\b");
        none(code, "\\b(double|Object|Integer|Long|List|ArrayList|Arrays|Exception)\\b(?!\\.)");
        none(code, "\\b(equals|hashCode|toString|getClass|System\\.(?!arraycopy))\\b");
        none(code, "->|::|\\bMath\\.\\w+Exact\\b|@|<\\w+>");
        none(code, "\\bMath\\.(?!max|min|abs|floorDiv)\\w+");
        none(code, "static (?!final|class|abstract)\\w+ \\w+( =|;)");
        none(code, "\\bTEXT\\b \\+|\\+ TEXT\\b");
        none(code, "\\bclass\\b(?<!static final class)(?<!public final class)");
        none(code, "\\bwhile\\b|\\bdo\\b");
        for (String face : new String[] {"set", "setting", "load", "tick", "zero", "tare", "scale",
            "band", "unband", "bandAt", "setExtra", "type", "clear", "rule", "unrule", "rules",
            "take", "quote", "parcel", "why", "parcels", "density", "dispute", "settle", "note",
            "notes", "sum", "lighter", "shorter", "cheapest", "undo", "fingerprint"}) {
            none(code, "\n {8}(private )?(static )?\\w+ " + face + "\\(");
            none(code, "\n {4}private (static )?\\w+ " + face + "\\(");
        }
        longMethods(source);
        sizes();
        System.out.println(wrong == 0 ? "nothing is against the language" : wrong + " are against it");
        if (wrong != 0) {
            System.exit(1);
        }
    }

    private static void none(String code, String pattern) {
        Matcher m = Pattern.compile(pattern).matcher(code);
        while (m.find()) {
            wrong++;
            System.out.println("not in the language: " + m.group().trim());
        }
    }

    private static void longMethods(String source) {
        Matcher m = Pattern.compile("(?s)\n( {4}| {8})(?=\\w)[^\n]*\\) \\{\n(.*?)\n\\1\\}").matcher(source);
        while (m.find()) {
            if (m.group(2).split("\n").length > 60) {
                wrong++;
                System.out.println("too long: " + m.group(0).trim().split("\n")[0]);
            }
        }
    }

    private static void sizes() {
        List<Class<?>> classes = new ArrayList<>(List.of(ParcelDesk.class.getDeclaredClasses()));
        classes.add(ParcelDesk.class);
        atMost("classes", classes.size(), 12);
        for (Class<?> c : classes) {
            int fields = 0;
            for (Field f : c.getDeclaredFields()) {
                if (!Modifier.isStatic(f.getModifiers())) {
                    fields++;
                } else {
                    atMost("static fields that can change", Modifier.isFinal(f.getModifiers()) ? 0 : 1, 0);
                }
            }
            atMost("fields of " + c.getSimpleName(), fields, 20);
            for (Method m : c.getDeclaredMethods()) {
                atMost("parameters of " + m.getName(), m.getParameterCount(), 7);
            }
            boolean isShut = c == ParcelDesk.class || (c.getModifiers() & Modifier.PUBLIC) == 0;
            atMost("classes inside that are open", isShut ? 0 : 1, 0);
        }
    }

    private static void atMost(String what, int count, int most) {
        if (count > most) {
            wrong++;
            System.out.println("too many " + what + ": " + count);
        }
    }
}
