import java.io.IOException;
import java.nio.file.Files;
import java.nio.file.Path;
import java.util.ArrayList;
import java.util.BitSet;
import java.util.List;
import java.util.Map;
import java.util.TreeMap;
import java.util.function.Supplier;
import java.util.regex.Matcher;
import java.util.regex.Pattern;

/**
 * The document's sentences, and what is due by each: a test names the sentence that it is for, in the document's
 * own words, and at the end no word of the document may be left without a test.
 */
final class Edges {
    static final int NONE = -1, UNKNOWN = -101, OUTSIDE = -102, STATE = -103, FULL = -104;
    static final int LOW = Integer.MIN_VALUE, HIGH = Integer.MAX_VALUE;
    /** What is ahead of the promises: the plate as a text, the terms, part 2 and part 3. */
    static final int TERMS = 0;
    static final int PROMISES = 31;

    /** A call with one number that may be taken or refused. */
    interface Call {
        long on(RingArm x, int number);
    }

    private final Check check = new Check();
    private final Map<Integer, String> sections = new TreeMap<>();
    private final Map<Integer, BitSet> tested = new TreeMap<>();
    private String sentence = "";
    private int dueBySentence = 1;

    Edges(Path document) throws IOException {
        String text = plain(Files.readString(document));
        cut(text, TERMS, "======== 1 ", "## The public face");
        cut(text, TERMS, "## Terms", "Ahead of the calls");
        for (int promise = 1; promise <= PROMISES; promise++) {
            String end = promise < PROMISES ? "## Promise " + (promise + 1) + ":" : "## Not promised";
            cut(text, promise, "## Promise " + promise + ":", end);
        }
    }

    private static String plain(String text) {
        return text.replaceAll("```\\w*", " ").replaceAll("\\s+", " ");
    }

    private void cut(String text, int section, String from, String to) {
        int begin = text.indexOf(from);
        int end = begin < 0 ? -1 : text.indexOf(to, begin);
        check.isTrue("the document has '" + from + "' and '" + to + "' behind it", end >= 0);
        if (end >= 0) {
            // a promise's heading and the call's face are no sentences
            String words = text.substring(begin + from.length(), end).replaceFirst("^ [\\w ]+ `[^`]*`:", " ");
            sections.merge(section, words, (one, other) -> one + " " + other);
            tested.putIfAbsent(section, new BitSet());
        }
    }

    /** What is due from here on is so by this sentence of a promise (or of the terms). */
    void of(int section, String words) {
        endSentence();
        sentence = section + ": " + words;
        dueBySentence = 0;
        String all = sections.getOrDefault(section, "");
        int place = all.indexOf(words);
        check.isTrue("the document says in " + sentence, place >= 0);
        if (place >= 0) {
            tested.get(section).set(place, place + words.length());
        }
    }

    void due(String call, long got, long want) {
        dueBySentence++;
        check.due("[" + sentence + "] " + call, got, want);
    }

    void isTrue(String what, boolean holds) {
        dueBySentence++;
        check.isTrue("[" + sentence + "] " + what, holds);
    }

    private void endSentence() {
        check.isTrue("a test stands behind " + sentence, dueBySentence > 0);
    }

    /** The least and the greatest number that are taken, and those beside them; each on an object of its own. */
    void range(String call, Supplier<RingArm> fresh, Call on, int least, int greatest, int refusal) {
        for (int number : new int[] {least, greatest}) {
            isTrue(call + " takes " + number, on.on(fresh.get(), number) >= NONE);
        }
        for (int number : new int[] {least - 1, greatest + 1, LOW, HIGH}) {
            due(call + " with " + number, on.on(fresh.get(), number), refusal);
        }
    }

    void end(String name) {
        endSentence();
        for (int section : sections.keySet()) {
            for (String words : untested(section)) {
                check.isTrue("a test for '" + words + "' (" + section + ")", false);
            }
        }
        check.end(name);
    }

    private List<String> untested(int section) {
        StringBuilder rest = new StringBuilder();
        String all = sections.get(section);
        for (int i = 0; i < all.length(); i++) {
            rest.append(tested.get(section).get(i) ? '\n' : all.charAt(i));
        }
        List<String> found = new ArrayList<>();
        // the parts' own numbers ("======== 2") are no words
        Matcher words = Pattern.compile("[^\\n]*[A-Za-z0-9][^\\n]*").matcher(rest.toString().replaceAll("={8} \\d", ""));
        while (words.find()) {
            found.add(words.group().trim());
        }
        return found;
    }
}
