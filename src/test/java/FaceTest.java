import java.io.IOException;
import java.nio.file.Files;
import java.nio.file.Path;
import java.util.ArrayList;
import java.util.List;

/** The class has the public face that the document writes down, word for word, and no more. */
public final class FaceTest {
    private static final Path DOCUMENT = Path.of("../shared/DOC.md");
    private static final Path SOURCE = Path.of("src/main/java/ParcelDesk.java");
    private static int wrong = 0;

    public static void main(String[] args) throws IOException {
        if (!Files.exists(DOCUMENT)) {
            System.out.println("the document is not there: the face is not compared");
            return;
        }
        String document = Files.readString(DOCUMENT);
        List<String> asked = declarations(face(document));
        List<String> built = declarations(Files.readString(SOURCE));
        tell("the document shows no face", asked.isEmpty());
        for (String declaration : asked) {
            tell("missing: " + declaration, !built.contains(declaration));
        }
        for (String declaration : built) {
            tell("not in the document: " + declaration, !asked.contains(declaration));
        }
        tell(built.size() + " declarations", built.size() != asked.size());
        promised(document, asked);
        System.out.println(wrong == 0 ? "all " + asked.size() + " declarations are as due"
            : wrong + " are not as due");
        if (wrong != 0) {
            System.exit(1);
        }
    }

    private static void tell(String what, boolean isWrong) {
        if (isWrong) {
            wrong++;
            System.out.println(what);
        }
    }

    private static String face(String document) {
        int start = document.indexOf("```java");
        int end = start < 0 ? -1 : document.indexOf("```", start + 3);
        return end < 0 ? "" : document.substring(start, end);
    }

    /** The class itself and its public members, each without what follows its head. */
    private static List<String> declarations(String code) {
        List<String> all = new ArrayList<>();
        for (String line : code.split("\r?\n")) {
            if (line.matches("( {4})?public .*")) {
                all.add(line.replaceAll("( \\{|;)\\s*$", "").trim());
            }
        }
        return all;
    }

    /** Each promise repeats the head of its call: it is the one of the face, too. */
    private static void promised(String document, List<String> asked) {
        int promises = 0;
        for (String line : document.split("\r?\n")) {
            if (line.matches("`[^`]*\\([^`]*\\)`: .*")) {
                promises++;
                String head = "public " + line.substring(1, line.indexOf('`', 1));
                tell("promised, but not in the face: " + head, !asked.contains(head));
            }
        }
        tell(promises + " promises, due is 33", promises != 33);
    }
}
