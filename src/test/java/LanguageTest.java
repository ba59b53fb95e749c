import java.io.IOException;
import java.nio.file.Files;
import java.nio.file.Path;
import java.util.List;

/** Rules of LANGUAGE.md that can be seen in the lines of the program. */
final class LanguageTest {
  private static final String[] NOT_ALLOWED = {
    "->", "::", "Exact", "finally", "synchronized", "assert", "try ", "catch", "hashCode", "Object",
    "System.", "Random", "Thread", "var ", "static {", "package ", "float", "protected", "ordinal",
    "String[]", "volatile"
  };
  private static final int MAX_LINES = 60;

  public static void main(String[] args) throws IOException {
    Rig rig = new Rig();
    List<String> lines = Files.readAllLines(Path.of("src/main/java/ClaviTuner.java"));
    int classes = 0;
    int begun = 0;
    for (int i = 0; i < lines.size(); i++) {
      String line = lines.get(i);
      for (String word : NOT_ALLOWED) {
        if (line.contains(word)) {
          rig.tell("line " + (i + 1) + " has '" + word + "': " + line);
        }
      }
      rig.due("signs above 126 in line " + (i + 1), line.chars().filter(c -> c > 126).count(), 0);
      classes += line.matches(" *(public |private )(static )?(final )?(class|enum|interface) .*") ? 1 : 0;
      if (line.matches(" {2,4}[a-zA-Z].*[({]") && !line.contains("class ") && !line.contains("enum ")) {
        begun = i;
      }
      if (line.matches(" {2,4}\\}") && i - begun > MAX_LINES && !lines.get(begun).contains("=")) {
        rig.tell("more than " + MAX_LINES + " lines from line " + (begun + 1));
      }
    }
    rig.due("more classes than 12", classes > 12 ? 1 : 0, 0);
    rig.end();
  }
}
