import java.util.ArrayList;
import java.util.List;
import java.util.regex.Matcher;
import java.util.regex.Pattern;

/**
 * Plays the test of one sentence of the document: scripts of calls, each on a new object, a call a
 * row, with the answer that is due behind "=". Each call is played to the plain model, too.
 *
 * <pre>
 * member 0..2 4 = 6 2 0     three calls and the answers of each; a single answer is due of all
 * add MIN MAX = -2          the least and the greatest int
 * feed '#*#' = 3            feeds a text; the last answer is due
 * shape 0 '#*#' = 3         feeds a text and reads it; so does execute 'a1,1;g3' = 2
 * map 01.#/2 = 3            adds members 0, 1, .. and sets obstacles, from cell 0; the members
 * </pre>
 */
final class Edges {
    private static final int MOST_CALLS = 512;
    private static final Pattern WORD = Pattern.compile("'([^']*)'|(\\S+)");

    private final String sentence;
    private final SwarmPlanner planner = new SwarmPlanner();
    private final PlainModel model = new PlainModel();
    private int calls = 0;
    private String row = "";

    private Edges(String sentence) {
        this.sentence = sentence;
    }

    /** The sentence of the document and the scripts that fail if it is broken. */
    static void edge(String section, String sentence, String... scripts) {
        Quotes.take(section, sentence);
        for (String script : scripts) {
            new Edges(section + ": " + sentence).play(script);
        }
    }

    private void play(String script) {
        boolean empty = true;
        for (String line : script.split("\n")) {
            if (!line.isBlank()) {
                row = line.strip();
                playRow(row);
                empty = false;
            }
        }
        Check.that(sentence + ": a script has rows", !empty);
        Check.that(sentence + ": at most 512 calls", calls <= MOST_CALLS);
    }

    private void playRow(String line) {
        String[] sides = line.split(" = ");
        Check.that(sentence + ": " + line + ": a row has an answer", sides.length == 2);
        List<String> words = new ArrayList<>();
        Matcher found = WORD.matcher(sides[0]);
        while (found.find()) {
            words.add(found.group(1) != null ? "'" + found.group(1) : found.group(2));
        }
        int[] due = numbers(sides[1].strip().split(" +"));
        String name = words.remove(0);
        if (name.equals("map")) {
            same(map(words.get(0)), due[0]);
        } else if (!words.isEmpty() && words.get(words.size() - 1).startsWith("'")) {
            String text = words.remove(words.size() - 1).substring(1);
            int length = feed(text);
            same(name.equals("feed") ? length : ask(name, numbers(words.toArray(new String[0]))), due[0]);
        } else {
            askAll(name, words, due);
        }
    }

    private static int[] numbers(String[] words) {
        int[] numbers = new int[words.length];
        for (int i = 0; i < words.length; i++) {
            numbers[i] = number(words[i]);
        }
        return numbers;
    }

    private static int number(String word) {
        return word.equals("MIN") ? Integer.MIN_VALUE : word.equals("MAX") ? Integer.MAX_VALUE
                : Integer.parseInt(word);
    }

    private void askAll(String name, List<String> words, int[] due) {
        List<int[]> each = new ArrayList<>();
        spread(words, 0, new int[words.size()], each);
        Check.that(sentence + ": " + row + ": an answer for each", due.length == 1
                || due.length == each.size());
        for (int i = 0; i < each.size(); i++) {
            same(ask(name, each.get(i)), due[due.length == 1 ? 0 : i]);
        }
    }

    private static void spread(List<String> words, int at, int[] chosen, List<int[]> each) {
        if (at == words.size()) {
            each.add(chosen.clone());
            return;
        }
        String[] ends = words.get(at).split("\\.\\.");
        int last = number(ends[ends.length - 1]);
        for (long value = number(ends[0]); value <= last; value++) {
            chosen[at] = (int) value;
            spread(words, at + 1, chosen, each);
        }
    }

    private int ask(String name, int... a) {
        calls++;
        int got = Calls.answer(planner, name, a);
        Check.due(sentence + ": " + row + ": call " + calls + ", by the model", got,
                model.call(name, a));
        return got;
    }

    private void same(int got, int due) {
        Check.due(sentence + ": " + row + ": call " + calls, got, due);
    }

    /** The length of the tape behind the text. */
    private int feed(String text) {
        int length = 0;
        for (int at = 0; at < text.length(); at += 5) {
            int[] a = new int[6];
            a[0] = Math.min(5, text.length() - at);
            for (int i = 1; i <= a[0]; i++) {
                a[i] = text.charAt(at + i - 1);
            }
            length = ask("feed", a);
        }
        return length;
    }

    private int map(String picture) {
        String[] rows = picture.split("/");
        for (char sign = '#'; sign <= '9'; sign++) {
            for (int at = 0; at < picture.length(); at++) {
                if (picture.charAt(at) == sign && sign != '.' && sign != '/') {
                    int y = (int) picture.substring(0, at).chars().filter(c -> c == '/').count();
                    int x = at - picture.lastIndexOf('/', at) - 1;
                    put(sign, x, y);
                }
            }
        }
        Check.that(sentence + ": " + row + ": a map lies in the world", rows.length <= 10);
        return ask("swarm", 0);
    }

    private void put(char sign, int x, int y) {
        if (sign == '#') {
            same(ask("obstacle", 12 * y + x), 1);
        } else {
            same(ask("add", x, y), sign - '0');
        }
    }
}
