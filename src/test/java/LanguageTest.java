import java.nio.file.Files;
import java.nio.file.Path;
import java.util.regex.Matcher;
import java.util.regex.Pattern;

/** Looks through the source for what ../shared/LANGUAGE.md leaves out, as far as words show it. */
public final class LanguageTest {
    private static int wrong = 0;

    public static void main(String[] args) throws Exception {
        String source = Files.readString(Path.of("src/main/java/ParcelDesk.java"));
        String code = source.replaceAll("(?s)/\\*.*?\\*/", "").replaceAll("//.*", "")
            .replaceAll("\"[^\"\n]*\"", "TEXT").replaceAll("'.'", "SIGN");
        none(code, "\\b(import|package|synchronized|assert|finally|throw|throws|try|catch|yield)\\b");
        none(code, "\\b(record|instanceof|var|sealed|permits|protected|volatile|transient)\\b");
        none(code, "\\b(double|Object|Integer|Long|List|ArrayList|Arrays|Exception)\\b(?!\\.)");
        none(code, "\\b(equals|hashCode|toString|getClass|System\\.(?!arraycopy))\\b");
        none(code, "->|::|\\bMath\\.\\w+Exact\\b|@|<\\w+>");
        none(code, "\\bMath\\.(?!max|min|abs|floorDiv)\\w+");
        none(code, "static (?!final|class|abstract)\\w+ \\w+( =|;)");
        none(code, "\\bTEXT\\b \\+|\\+ TEXT\\b");
        none(code, "\\bclass\\b(?<!static final class)(?<!public final class)");
        none(code, "\\bwhile\\b|\\bdo\\b");
        for (String face : new String[] {"set", "setting", "load", "tick", "zero", "tare", "scale",
            "band", "unband", "bandAt", "setExtra", "type", "clear", "rule", "unrule", "rules",
            "take", "quote", "parcel", "why", "parcels", "density", "dispute", "settle", "note",
            "notes", "sum", "lighter", "shorter", "cheapest", "undo", "fingerprint"}) {
            none(code, "\n {8}(private )?(static )?\\w+ " + face + "\\(");
            none(code, "\n {4}private (static )?\\w+ " + face + "\\(");
        }
        longMethods(source);
        System.out.println(wrong == 0 ? "nothing is against the language" : wrong + " are against it");
        if (wrong != 0) {
            System.exit(1);
        }
    }

    private static void none(String code, String pattern) {
        Matcher m = Pattern.compile(pattern).matcher(code);
        while (m.find()) {
            wrong++;
            System.out.println("not in the language: " + m.group().trim());
        }
    }

    private static void longMethods(String source) {
        Matcher m = Pattern.compile("(?s)\n( {4}| {8})(?=\\w)[^\n]*\\) \\{\n(.*?)\n\\1\\}").matcher(source);
        while (m.find()) {
            if (m.group(2).split("\n").length > 60) {
                wrong++;
                System.out.println("too long: " + m.group(0).trim().split("\n")[0]);
            }
        }
    }
}
