import java.io.IOException;
import java.nio.charset.StandardCharsets;
import java.nio.file.Files;
import java.nio.file.Path;
import java.util.HashMap;
import java.util.LinkedHashSet;
import java.util.Map;
import java.util.Set;
import java.util.regex.Matcher;
import java.util.regex.Pattern;

/** What ../shared/DOC.md says, promise by promise, each as one line; tests that use it are started in the checkout. */
final class Document {
  static final int PROMISES = 47;
  private static final Pattern HEADING = Pattern.compile("(?m)^## (Promise (\\d+): \\w.*|Not promised)$");
  private static final Pattern REFUSAL = Pattern.compile("\\b(UNKNOWN|OUTSIDE|STATE|FULL|NO|NONE)\\b");

  /** With 0, what is said ahead of the promises, of all. */
  private final Map<Integer, String> said = new HashMap<>();

  Document() throws IOException {
    String text = Files.readString(Path.of("..", "shared", "DOC.md"), StandardCharsets.UTF_8);
    Matcher heading = HEADING.matcher(text);
    int promise = 0;
    int from = 0;
    while (heading.find()) {
      said.put(promise, text.substring(from, heading.start()).replaceAll("\\s+", " "));
      promise = heading.group(2) == null ? PROMISES + 1 : Integer.parseInt(heading.group(2));
      from = heading.end();
    }
    Due.holds(said.size() == PROMISES + 1, "promises 1 to 47 were found in the document");
  }

  String ofPromise(int promise) {
    return said.getOrDefault(promise, "");
  }

  /** Whether these words are a promise's own, or said ahead of all promises. */
  boolean says(int promise, String words) {
    return ofPromise(promise).contains(words) || ofPromise(0).contains(words);
  }

  /** The refusals that a promise names; those of the promise ahead, too, where it is "Refused likewise". */
  Set<String> refusals(int promise) {
    Set<String> found = new LinkedHashSet<>();
    if (ofPromise(promise).contains("Refused likewise")) {
      found.addAll(refusals(promise - 1));
    }
    Matcher name = REFUSAL.matcher(ofPromise(promise));
    while (name.find()) {
      found.add(name.group());
    }
    return found;
  }
}
