import java.io.IOException;
import java.nio.file.Files;
import java.nio.file.Path;
import java.util.LinkedHashMap;
import java.util.Map;
import java.util.function.IntToLongFunction;
import java.util.regex.Matcher;
import java.util.regex.Pattern;

/**
 * The document's sentences, each with checks of its own. A test names the sentence, word for word, and then looks at
 * what it says; at the end no word of the terms and promises may be left without a test.
 */
final class Sentences {
    static final int BIG = Integer.MAX_VALUE;
    static final int SMALL = Integer.MIN_VALUE;
    /** 32 and 57 would be rooms 0 and 25 again in the bits of an int. */
    private static final int[] NO_ROOMS = {-2, -10, 25, 26, 32, 57, 99, 256, BIG, SMALL, SMALL + 1};
    private static final Path DOCUMENT = Path.of("../shared/DOC.md");

    private final Checks checks = new Checks("SentencesTest");
    private final Map<String, String> texts = new LinkedHashMap<>();
    private final Map<String, boolean[]> quoted = new LinkedHashMap<>();
    private String part = "";
    private String sentence = "";
    private int asked = 1;

    Sentences() throws IOException {
        Pattern parts = Pattern.compile("(?ms)^## ([^:\\n]*)[^\\n]*\\n(.*?)(?=^## |\\z)");
        Matcher m = parts.matcher(Files.readString(DOCUMENT));
        while (m.find()) {
            String text = m.group(2).replaceAll("```(text)?", " ").replaceAll("`[^`]*`:", " ");
            texts.put(m.group(1), text.replaceAll("\\s+", " ").trim());
            quoted.put(m.group(1), new boolean[texts.get(m.group(1)).length()]);
        }
    }

    /** The part of the document that the next sentences stand in: "Terms", "Promise 4" and the like. */
    void in(String part) {
        this.part = part;
        checks.holds("the document has a part " + part, texts.containsKey(part));
    }

    void says(String sentence) {
        endSentence();
        this.sentence = sentence;
        asked = 0;
        int at = firstNotQuoted(sentence);
        checks.holds(part + " says: " + sentence, at >= 0);
        for (int i = Math.max(at, 0); at >= 0 && i < at + sentence.length(); i++) {
            quoted.get(part)[i] = true;
        }
    }

    private int firstNotQuoted(String sentence) {
        String text = texts.getOrDefault(part, "");
        int at = text.indexOf(sentence);
        while (at >= 0 && quoted.get(part)[at]) {
            at = text.indexOf(sentence, at + 1);
        }
        return at;
    }

    void due(String call, long got, long want) {
        asked++;
        checks.due(part + ", \"" + sentence + "\": " + call, got, want);
    }

    void holds(String what, boolean so) {
        asked++;
        checks.holds(part + ", \"" + sentence + "\": " + what, so);
    }

    /** A call that takes a ROOM: 0 and 24 are taken, all others refused. */
    void aRoom(String call, IntToLongFunction byRoom) {
        due(call + " of -1", byRoom.applyAsLong(-1), -1);
        aRoomOrLess(call, byRoom);
    }

    /** As aRoom, where -1 means something else. */
    void aRoomOrLess(String call, IntToLongFunction byRoom) {
        for (int room : NO_ROOMS) {
            due(call + " of " + room, byRoom.applyAsLong(room), -1);
        }
        holds(call + " takes room 0", byRoom.applyAsLong(0) != -1);
        holds(call + " takes room 24", byRoom.applyAsLong(24) != -1);
    }

    /** A call that takes one of so many PEOPLE. */
    void aPerson(String call, int people, IntToLongFunction byPerson) {
        for (int person : new int[] {-1, -2, people, people + 1, 10, 32, BIG, SMALL}) {
            due(call + " of person " + person, byPerson.applyAsLong(person), -1);
        }
        for (int person = 0; person < people; person++) {
            holds(call + " takes person " + person, byPerson.applyAsLong(person) != -1);
        }
    }

    /** A call that takes a what from 0 to the greatest. */
    void aWhat(String call, int greatest, IntToLongFunction byWhat) {
        for (int what : new int[] {-1, greatest + 1, greatest + 2, 10, BIG, SMALL}) {
            due(call + ", what " + what, byWhat.applyAsLong(what), -2);
        }
        for (int what = 0; what <= greatest; what++) {
            holds(call + " takes what " + what, byWhat.applyAsLong(what) != -2);
        }
    }

    /** A call that takes a number from the least to the greatest. */
    void aNumber(String call, int least, int greatest, IntToLongFunction byNumber) {
        for (int low : new int[] {least - 1, least - 2, least - 10, SMALL}) {
            due(call + " with " + low, byNumber.applyAsLong(low), -4);
        }
        for (int high : new int[] {greatest + 1, greatest + 2, greatest + 1000, BIG}) {
            due(call + " with " + high, byNumber.applyAsLong(high), -6);
        }
        for (int fine : new int[] {least, greatest}) {
            long got = byNumber.applyAsLong(fine);
            holds(call + " takes " + fine, got != -4 && got != -6);
        }
    }

    private void endSentence() {
        checks.holds("a test of its own: " + sentence, asked > 0);
    }

    void end() {
        endSentence();
        everyWordOf("Terms");
        for (int promise = 1; promise <= 33; promise++) {
            everyWordOf("Promise " + promise);
        }
        checks.end();
    }

    private void everyWordOf(String part) {
        String text = texts.getOrDefault(part, "");
        StringBuilder left = new StringBuilder();
        for (int i = 0; i < text.length(); i++) {
            if (text.charAt(i) != ' ' && !quoted.get(part)[i]) {
                left.append(text.charAt(i));
            }
        }
        checks.holds(part + " has a text", !text.isEmpty());
        checks.holds(part + " has a test of every sentence, but not of: " + left, left.length() == 0);
    }

    /** A new object that was told these, each piece a HOUSE without FAULT. */
    static FoughtFromMemory told(String... pieces) {
        FoughtFromMemory x = new FoughtFromMemory();
        for (String piece : pieces) {
            int answer = Checks.tell(x, piece);
            if (answer < 1) {
                throw new IllegalStateException(piece + " answered " + answer);
            }
        }
        return x;
    }

    /** The answer of house() to these letters on a new object. */
    static int houseOf(String letters) {
        return Checks.tell(new FoughtFromMemory(), letters);
    }

    /** So many NIGHTS more, any number of them. */
    static void pass(FoughtFromMemory x, int nights) {
        for (int left = nights; left > 0; left -= 60) {
            x.nights(Math.min(left, 60));
        }
    }
}
