import java.io.IOException;
import java.nio.file.Files;
import java.nio.file.Path;
import java.util.List;
import java.util.regex.Matcher;
import java.util.regex.Pattern;

/** Those rules of ../shared/LANGUAGE.md that can be seen from the words of the program's one file. */
public final class LanguageTest {
    private static final int MOST_LINES_OF_A_METHOD = 60;
    private static final int MOST_PARAMETERS = 7;

    public static void main(String[] args) throws IOException {
        String source = Files.readString(Path.of("src/main/java/Coverpool.java"));
        String code = source.replaceAll("(?s)/\\*.*?\\*/", "").replaceAll("//[^\n]*", "");
        String words = code.replaceAll("\"[^\"\n]*\"", "\"\"");
        onlyTheLibraryThatIsListed(words);
        nothingThatIsRuledOut(words);
        exceptionsAreThrownAsListed(code);
        methodsAreShort(words);
        Check.due("all signs are 1 to 127", true, source.chars().allMatch(sign -> sign >= 1 && sign <= 127));
        Check.end();
    }

    private static void onlyTheLibraryThatIsListed(String words) {
        List<String> listed = List.of("java.util.ArrayList", "java.util.List", "java.util.Arrays", "java.util.Iterator");
        Matcher imports = Pattern.compile("import ([\\w.* ]+);").matcher(words);
        while (imports.find()) {
            Check.due("import " + imports.group(1), true, listed.contains(imports.group(1)));
        }
        Matcher functions = Pattern.compile("\\b(Math|Integer|Long)\\.(\\w+)").matcher(words);
        while (functions.find()) {
            Check.due(functions.group(), false, functions.group(2).endsWith("Exact"));
        }
        Check.due("no package", false, Pattern.compile("(?m)^package ").matcher(words).find());
    }

    private static void nothingThatIsRuledOut(String words) {
        List<String> ruledOut = List.of("->", "::", "\\bsynchronized\\b", "\\bassert\\b", "\\bfinally\\b", "\\bcatch\\b",
            "\\bMath\\.(?!min|max|abs|floorDiv|floorMod)", "\\bSystem\\.(?!arraycopy)", "\\bThread\\b", "\\bRandom\\b",
            "\\bequals\\(", "\\bhashCode\\b", "\\btoString\\b", "\\bprotected\\b", "\\bstatic \\{", "\\bvolatile\\b");
        for (String pattern : ruledOut) {
            Check.due("'" + pattern + "' is found", false, Pattern.compile(pattern).matcher(words).find());
        }
        Matcher fields = Pattern.compile("\\bstatic (?!final )[\\w<>\\[\\]]+ \\w+ *[=;]").matcher(words);
        Check.due("a static field that is not final is found", false, fields.find());
    }

    private static void exceptionsAreThrownAsListed(String code) {
        Pattern listed = Pattern.compile("throw new (IllegalStateException|IllegalArgumentException|IndexOutOfBoundsException)"
            + "\\((\"[^\"\n]*\")?\\);");
        Matcher found = Pattern.compile("\\bthrow\\b[^\n]*").matcher(code);
        while (found.find()) {
            Check.due(found.group(), true, listed.matcher(found.group()).matches());
        }
    }

    private static void methodsAreShort(String words) {
        Matcher starts = Pattern.compile("(?m)^( +)[\\w<>\\[\\] ]+\\w\\(([^()]*)\\)[\\w, ]* \\{$").matcher(words);
        int methods = 0;
        while (starts.find()) {
            methods++;
            int end = words.indexOf("\n" + starts.group(1) + "}", starts.end() - 1);
            long lines = words.substring(starts.start(), Math.max(starts.end(), end)).lines().count();
            String name = starts.group().trim();
            Check.due("it ends: " + name, true, end > 0);
            Check.due("it is short: " + name, true, lines <= MOST_LINES_OF_A_METHOD);
            Check.due("it has few parameters: " + name, true, starts.group(2).split(",").length <= MOST_PARAMETERS);
        }
        Check.due("methods and constructors are found", true, methods >= 22);
    }
}
