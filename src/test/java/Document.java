import java.io.IOException;
import java.nio.file.Files;
import java.nio.file.Path;
import java.util.ArrayList;
import java.util.List;

/** The sentences of ../shared/DOC.md, each with the place where it stands. */
final class Document {
  record Sentence(String at, String words) {
  }

  private Document() {
  }

  static List<Sentence> sentences(Path document) throws IOException {
    List<Sentence> found = new ArrayList<>();
    String at = "";
    boolean listing = false;
    for (String line : Files.readAllLines(document)) {
      if (line.startsWith("```")) {
        listing = !listing;
      } else if (line.startsWith("#")) {
        at = line.replaceAll("^#+ ", "").replaceAll("^(Promise \\d+):.*", "$1");
      } else if (line.matches("[A-Z][A-Z, ]+")) {
        at = line;
      } else if (!line.isBlank() && !at.equals("The public face")) {
        // FaceTest holds the class to the public face.
        addSentences(found, at, line.strip(), listing);
      }
    }
    return found;
  }

  private static void addSentences(List<Sentence> found, String at, String line, boolean listing) {
    if (listing) {
      found.add(new Sentence(at, line.replaceAll("\\s+", " ")));
      return;
    }
    String behindTheCall = line.replaceAll("^`(int|void|Campground)[^`]*`: ", "").replaceAll("^- ", "");
    for (String words : behindTheCall.split("(?<=[.]) (?=[A-Z(])")) {
      found.add(new Sentence(at, words));
    }
  }
}
