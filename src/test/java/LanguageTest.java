import java.io.IOException;
import java.nio.file.Files;
import java.nio.file.Path;
import java.util.regex.Matcher;
import java.util.regex.Pattern;

/** Some of the rules of ../shared/LANGUAGE.md that can be seen from the text of the class alone. */
public final class LanguageTest {
  private static final Due due = new Due("LanguageTest");

  public static void main(String[] args) throws IOException {
    String source = Files.readString(Path.of("src/main/java/LineFollowerBench.java"));
    String code = source.replaceAll("(?s)/\\*.*?\\*/", "").replaceAll("//[^\n]*", "");
    without(code, "rule 2: lambdas and method references", "->|::");
    without(code, "rule 4: functions outside the list", "\\b(Double|Float|Character|Objects|Collections)\\b|Exact\\(");
    without(code, "rule 4: Math beyond int and long", "Math\\.(?!abs\\(|min\\(|max\\(|floorDiv\\(|floorMod\\()");
    without(code, "rule 4: System but for arraycopy", "System\\.(?!arraycopy\\()");
    without(code, "rule 6: words that are not allowed",
        "\\b(catch|finally|synchronized|assert|hashCode|toString|instanceof|extends Exception)\\b");
    without(code, "rule 6: throws but of new exceptions", "throw (?!new \\w+Exception\\((\"[^\"]*\")?\\);)");
    without(code, "rule 10: texts joined by +", "\"\\s*\\+|\\+\\s*\"");
    without(code, "rule 13: the world outside", "nanoTime|currentTimeMillis|Random|Thread|\\bio\\b|\\bnio\\b|getenv");
    without(code, "rule 4: imports", "import (?!java\\.util\\.NoSuchElementException;)");
    without(source, "rule 4: signs", "[^\\n -~]");
    due.compare("rule 11: at most twelve classes", "true", "" + (count(code, "\\bclass \\w+") <= 12));
    int length = 0;
    for (String line : code.split("\n")) {
      length = line.matches(" {2,4}(?! )\\S.*\\{") && !line.contains(" class ") ? 0 : length + 1;
      due.compare("rule 11: a short method", "true", "" + (length <= 70));
    }
    due.end();
  }

  private static void without(String code, String what, String pattern) {
    Matcher matcher = Pattern.compile(pattern).matcher(code);
    due.compare(what, "none", matcher.find() ? matcher.group() : "none");
  }

  private static long count(String code, String pattern) {
    return Pattern.compile(pattern).matcher(code).results().count();
  }
}
