import java.nio.file.Files;
import java.nio.file.Path;
import java.util.regex.Matcher;
import java.util.regex.Pattern;

/** ../shared/LANGUAGE.md, as far as it can be seen from the text. Run in the project's root. */
public final class LanguageTest {
    private static final String[] NEVER = {
        "->", "::", "\\bsynchronized\\b", "\\bassert\\b", "\\bfinally\\b(?=\\s*\\{)", "\\bpackage\\b", "\\bBigInteger\\b", "\\bObject\\b",
        "\\bSystem\\.(?!arraycopy\\b)", "\\bThread\\b", "\\bnanoTime\\b", "Exact\\(", "\\brethrow\\b", "getMessage", "\\bstatic\\s*\\{",
        "\\bhashCode\\b", "\\btoString\\b", "\\bwhile \\(true\\)", "\\bfor \\(;;", "\\bnew \\w+\\[[^\\]]*\\]\\[[^\\]]*\\]\\[",
    };

    public static void main(String[] args) throws Exception {
        String text = Files.readString(Path.of("src/main/java/MatrixScripts.java"));
        String code = text.replaceAll("(?s)/\\*.*?\\*/", "").replaceAll("//[^\n]*", "").replaceAll("\"[^\"\n]*\"", "\"\"");
        for (String never : NEVER) {
            Matcher found = Pattern.compile(never).matcher(code);
            Desk.due(never, found.find() ? found.group() : "", "");
        }
        Matcher imports = Pattern.compile("import ([\\w.]+);").matcher(code);
        while (imports.find()) {
            Desk.due("import", imports.group(1), "java.util.Arrays");
        }
        Matcher thrown = Pattern.compile("throw ([^;]*);").matcher(code);
        while (thrown.find()) {
            Desk.due("throw", thrown.group(1).matches("new (IllegalState|IllegalArgument|IndexOutOfBounds)Exception\\(\\)"), true);
        }
        Matcher statics = Pattern.compile("\\bstatic (?!final )[\\w\\[\\]]+ \\w+( =|;)").matcher(code);
        Desk.due("static fields are final", statics.find(), false);
        Matcher members = Pattern.compile("(?m)^    (?!private |public |\\}|/|\\*| )\\S.*$").matcher(code);
        Desk.due("members of the class that are neither private nor of the face", members.find() ? members.group() : "", "");
        for (String face : new String[] {"feed", "end", "run", "place", "length", "shown", "wipe", "forget", "told"}) {
            Desk.due(face, Pattern.compile("(?m)^ ++(?!public|return)[\\w\\[\\] ]+ " + face + "\\([^)]*\\) *\\{").matcher(code).find(), false);
        }
        methods(code);
        Desk.close("LanguageTest");
    }

    private static void methods(String code) {
        String[] lines = code.split("\n");
        for (int i = 0; i < lines.length; i++) {
            Matcher head = Pattern.compile("^( {4}| {8})[^ }].*\\((.*)\\)[\\w ]*\\{$").matcher(lines[i]);
            if (head.matches()) {
                int end = i;
                while (!lines[end].equals(head.group(1) + "}")) {
                    end++;
                }
                Desk.due("length of " + lines[i].trim(), end - i < 60, true);
                Desk.due("parameters of " + lines[i].trim(), head.group(2).split(",").length <= 7, true);
            }
        }
    }
}
