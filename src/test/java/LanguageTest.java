import java.io.IOException;
import java.nio.file.Files;
import java.nio.file.Path;
import java.util.Set;

/** What a look at the source can tell of LANGUAGE.md. Runs from the project's directory. */
public final class LanguageTest {
  private static final Due due = new Due("LanguageTest");
  private static final Set<String> BARRED = Set.of(
      "throw", "throws", "try", "catch", "synchronized", "assert", "import", "package", "float",
      "double", "record", "yield", "volatile", "native", "System.exit", "null", "Object",
      "equals", "hashCode", "toString", "protected");

  public static void main(String[] args) throws IOException {
    String source = Files.readString(Path.of("src/main/java/DesertWire.java"));
    String bare = source.replaceAll("(?s)/\\*.*?\\*/", "").replaceAll("//[^\n]*", "");
    for (String word : bare.replaceAll("\"[^\"\n]*\"", "").split("[^A-Za-z0-9_.]+")) {
      due.is("the word " + word, BARRED.contains(word) ? 1 : 0, 0);
    }
    due.is("lambdas", bare.contains("->") ? 1 : 0, 0);
    due.is("method references", bare.contains("::") ? 1 : 0, 0);
    due.is("Exact", bare.contains("Exact") ? 1 : 0, 0);
    due.is("annotations", bare.contains("@") ? 1 : 0, 0);
    due.is("other signs", source.chars().allMatch(c -> c < 127) ? 1 : 0, 1);
    methodsAreShort(source);
    due.end();
  }

  /** A method's end is told by its indent. */
  private static void methodsAreShort(String source) {
    String[] lines = source.split("\n");
    int since = 0;
    for (int i = 0; i < lines.length; i++) {
      if (lines[i].matches("( {2}| {4})[a-zA-Z].*\\) \\{")) {
        since = i;
      }
      if (lines[i].equals("  }") || lines[i].equals("    }")) {
        due.is("lines up to " + (i + 1), i - since > 60 ? 1 : 0, 0);
      }
    }
  }
}
