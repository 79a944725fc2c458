import java.io.IOException;
import java.nio.file.Files;
import java.nio.file.Path;
import java.util.ArrayList;
import java.util.HashMap;
import java.util.List;
import java.util.Map;
import java.util.regex.Matcher;
import java.util.regex.Pattern;

/**
 * The sentences of the document that tests name. Each must stand there word for word, in the section of its
 * promise or in what the promises share; and of what the sections say nothing may be left without a test.
 */
final class Sentences {
    private static final Pattern HEADING = Pattern.compile("## Promise (\\d+): (\\w[\\w ]*?) `[^`]*`: ");

    private final String document;
    private final boolean[] named;
    private final Map<Integer, int[]> sections = new HashMap<>();
    private final Map<Integer, String> names = new HashMap<>();
    private final List<int[]> shared = new ArrayList<>();

    Sentences(Path file) throws IOException {
        document = Files.readString(file).replaceAll("```(java|text)?", " ").replaceAll("={8} \\d", " ")
            .replaceAll("\\s+", " ");
        named = new boolean[document.length()];
        share("A LINE is a text", " An object is used");
        share("An object is used", "; what later calls answer");
        share("There are KEYS", " Ahead of the calls");
        Matcher heading = HEADING.matcher(document);
        while (heading.find()) {
            int end = document.indexOf(" ## ", heading.end());
            sections.put(Integer.parseInt(heading.group(1)), new int[] {heading.end(), end});
            names.put(Integer.parseInt(heading.group(1)), heading.group(2));
        }
    }

    private void share(String from, String upTo) {
        int start = document.indexOf(from);
        shared.add(new int[] {start, document.indexOf(upTo, start)});
    }

    int promises() {
        return sections.size();
    }

    String nameOf(int promise) {
        return names.getOrDefault(promise, "?");
    }

    String textOf(int promise) {
        int[] place = sections.get(promise);
        return place == null ? "" : document.substring(place[0], place[1]);
    }

    /** Whether the document says these words of this promise, or of all; they are taken as named then. */
    boolean name(int promise, String words) {
        List<int[]> places = new ArrayList<>();
        if (sections.containsKey(promise)) {
            places.add(sections.get(promise));
        }
        places.addAll(shared);
        for (int[] place : places) {
            int start = document.indexOf(words, place[0]);
            if (start >= 0 && start + words.length() <= place[1]) {
                for (int i = start; i < start + words.length(); i++) {
                    named[i] = true;
                }
                return true;
            }
        }
        return false;
    }

    /** What the sections say that no test has named. */
    List<String> unnamed() {
        List<int[]> places = new ArrayList<>(shared);
        places.addAll(sections.values());
        List<String> left = new ArrayList<>();
        for (int[] place : places) {
            StringBuilder piece = new StringBuilder();
            for (int i = place[0]; i <= place[1]; i++) {
                if (i < place[1] && !named[i]) {
                    piece.append(document.charAt(i));
                } else {
                    String words = piece.toString();
                    if (words.chars().anyMatch(Character::isLetterOrDigit)) {
                        left.add(words.strip());
                    }
                    piece.setLength(0);
                }
            }
        }
        return left;
    }
}
