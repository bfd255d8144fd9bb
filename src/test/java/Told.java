import java.io.IOException;
import java.nio.file.Files;
import java.nio.file.Path;
import java.util.Arrays;

/** The document, and which of its sentences have been put to a test. */
final class Told {
    private final String text;
    private final boolean[] tested;
    private String heading = "";
    private int from = 0;
    private int to = 0;

    Told() throws IOException {
        text = document();
        tested = new boolean[text.length()];
    }

    static String document() throws IOException {
        return Files.readString(Path.of("../shared/DOC.md")) + "\n";
    }

    /** From here on, sentences of this section are tested. */
    void section(String newHeading) {
        heading = newHeading;
        Check.at(heading);
        int start = text.indexOf("\n## " + heading + "\n");
        Check.due("the document has this section", true, start >= 0);
        from = start < 0 ? text.length() : start + heading.length() + 5;
        to = endOfSection(from);
    }

    private int endOfSection(int start) {
        int next = text.indexOf("\n## ", start);
        return next < 0 ? text.length() : next;
    }

    /** The sentence stands next in the section, and the test, which would fail if it were broken, is run. */
    void says(String sentence, Runnable test) {
        Check.at(heading + ", '" + sentence + "'");
        int start = text.indexOf(sentence, from);
        boolean found = start >= 0 && start + sentence.length() <= to;
        Check.due("the section says this", true, found);
        if (found) {
            Arrays.fill(tested, start, start + sentence.length(), true);
            from = start + sentence.length();
        }
        int before = Check.checked();
        test.run();
        Check.due("the test checks something", true, Check.checked() > before);
    }

    /** Each word of the terms and of the promises is in a sentence that was tested. */
    void dueAllTested() {
        int start = text.indexOf("\n## Terms\n");
        for (int at = start; at >= 0 && at < text.length(); at = endOfSection(at + 1)) {
            String section = text.substring(at, endOfSection(at + 1));
            if (section.startsWith("\n## Terms") || section.startsWith("\n## Promise")) {
                dueTested(at, at + section.length());
            }
        }
    }

    private void dueTested(int start, int end) {
        for (int line = start + 1; line < end; line = text.indexOf('\n', line) + 1) {
            int endOfLine = text.indexOf('\n', line);
            Check.at("line '" + text.substring(line, endOfLine) + "'");
            StringBuilder left = new StringBuilder();
            for (int i = firstThatAsks(line, endOfLine); i < endOfLine; i++) {
                left.append(tested[i] ? ' ' : text.charAt(i));
            }
            Check.dueText("what no test tells of", "", left.toString().trim());
        }
    }

    /** Headings, signatures (FaceTest looks at them) and where the interface has its captions ask for no test here. */
    private int firstThatAsks(int line, int endOfLine) {
        String words = text.substring(line, endOfLine);
        if (words.startsWith("## ") || words.startsWith("Ahead of the calls ")) {
            return endOfLine;
        }
        int signature = words.startsWith("`") && words.contains("(") ? words.indexOf("`: ") + 3 : 0;
        return line + signature;
    }
}
