import java.io.IOException;
import java.nio.file.Files;
import java.nio.file.Path;
import java.util.ArrayList;
import java.util.Iterator;
import java.util.List;

/** What README.md shows: its way to feed a text is Rig's, and its example answers as it says. */
final class ReadmeTest {
  private static final Rig RIG = new Rig();
  private static final String FED = "feed(x, \"";

  private interface Shown {
    Object answer();
  }

  public static void main(String[] args) throws IOException {
    List<List<String>> blocks = javaBlocks(Files.readAllLines(Path.of("README.md")));
    RIG.due("blocks of README.md", blocks.size(), 2);
    if (blocks.size() == 2) {
      String rig = Files.readString(Path.of("src/test/java/Rig.java")).replaceAll("\\s+", " ");
      String way = String.join(" ", blocks.get(0)).replaceAll("\\s+", " ");
      RIG.due("README.md's way to feed is Rig's", rig.contains(way) ? 1 : 0, 1);
      example(blocks.get(1).iterator());
    }
    RIG.end();
  }

  private static List<List<String>> javaBlocks(List<String> lines) {
    List<List<String>> blocks = new ArrayList<>();
    boolean inside = false;
    for (String line : lines) {
      if (line.equals("```java")) {
        blocks.add(new ArrayList<>());
        inside = true;
      } else if (line.equals("```")) {
        inside = false;
      } else if (inside) {
        blocks.get(blocks.size() - 1).add(line);
      }
    }
    return blocks;
  }

  private static void example(Iterator<String> lines) {
    RIG.dueText("its first line", next(lines), "ClaviTuner x = new ClaviTuner();");
    ClaviTuner x = new ClaviTuner();
    fed(x, lines);
    fed(x, lines);
    fed(x, lines);
    shown(lines, "x.teach();", () -> x.teach());
    shown(lines, "x.off(0, 2, 0);", () -> x.off(0, 2, 0));
    shown(lines, "x.beats(0, 2, 0);", () -> x.beats(0, 2, 0));
    shown(lines, "x.carry(0);", () -> x.carry(0));
    shown(lines, "x.off(0, 2, 0);", () -> x.off(0, 2, 0));
    shown(lines, "x.pass(3);", () -> x.pass(3));
    shown(lines, "x.key(2, 2);", () -> x.key(2, 2));
    shown(lines, "x.lasts(0, 2, 0, 10);", () -> x.lasts(0, 2, 0, 10));
    shown(lines, "x.would(0);", () -> x.would(0));
    shown(lines, "x.without(0);", () -> x.without(0));
    shown(lines, "x.temper();", () -> x.temper());
    shown(lines, "x.mean();", () -> x.mean());
    shown(lines, "x.turn(1, 400);", () -> x.turn(1, 400));
    shown(lines, "x.key(2, 2);", () -> x.key(2, 2));
    shown(lines, "x.string(1, 3100);", () -> x.string(1, 3100));
    shown(lines, "x.turn(2, 0);", () -> x.turn(2, 0));
    fed(x, lines);
    shown(lines, "x.teach();", () -> x.teach());
    shown(lines, "x.errorAt();", () -> x.errorAt());
    shown(lines, "x.count(2);", () -> x.count(2));
    RIG.due("lines of README.md that are not tested", lines.hasNext() ? 1 : 0, 0);
  }

  private static String next(Iterator<String> lines) {
    return lines.hasNext() ? lines.next() : "";
  }

  /** The line's own text is fed. */
  private static void fed(ClaviTuner x, Iterator<String> lines) {
    String line = next(lines);
    if (line.startsWith(FED) && line.endsWith("\");")) {
      Rig.feed(x, line.substring(FED.length(), line.length() - 3));
    } else {
      RIG.tell("README.md feeds nothing here: " + line);
    }
  }

  private static void shown(Iterator<String> lines, String call, Shown shown) {
    String[] parts = next(lines).split("//");
    RIG.dueText("the call that README.md shows", parts[0].trim(), call);
    String said = parts.length < 2 ? "" : parts[1].split(" : ")[0].trim();
    RIG.dueText("what README.md says of " + call, said, answered(shown));
  }

  private static String answered(Shown shown) {
    try {
      return "" + shown.answer();
    } catch (IndexOutOfBoundsException e) {
      return e.getClass().getSimpleName();
    }
  }
}
