import java.io.IOException;
import java.nio.file.Files;
import java.nio.file.Path;

/** Counts the calls whose answer is not the one that is due. */
final class Due {
    private static final Path DOCUMENT = Path.of("../shared/DOC.md");
    private static final long MOST_SECONDS = 300;
    static final int BAD = -1, NOT = -2, FULL = -3, STATE = -5;
    static final int LOW = Integer.MIN_VALUE, HIGH = Integer.MAX_VALUE;

    private final String title;
    private String part = "";
    private String document;
    private int asked;
    private int wrong;

    Due(String title) {
        this.title = title;
        Thread watch = new Thread(this::endTooLong);
        watch.setDaemon(true);
        watch.start();
    }

    /** A call that does not end is wrong, too. */
    private void endTooLong() {
        try {
            Thread.sleep(MOST_SECONDS * 1000);
            System.out.println(title + ": " + part + "does not end");
            Runtime.getRuntime().halt(1);
        } catch (InterruptedException ended) {
            Thread.currentThread().interrupt();
        }
    }

    /** What is asked from here on: a promise, or a part of it. */
    void of(String newPart) {
        part = newPart + ": ";
    }

    /** What is asked from here on: a sentence of the document. If it no longer stands there, that is said, no more. */
    void sentence(String words) {
        of("\"" + words + "\"");
        if (document == null) {
            document = read();
        }
        if (!document.isEmpty() && !document.contains(words)) {
            System.out.println(title + ": the document does not say " + part + "any more");
        }
    }

    private static String read() {
        try {
            return Files.exists(DOCUMENT) ? Files.readString(DOCUMENT).replaceAll("\\s+", " ") : "";
        } catch (IOException unread) {
            return "";
        }
    }

    void is(String call, long got, long want) {
        asked++;
        if (got != want) {
            wrong++;
            System.out.println(title + ": " + part + call + " answered " + got + ", due is " + want);
        }
    }

    /** Ends the test: with exit code 1 if an answer was wrong, or if nothing was asked. */
    void end() {
        System.out.println(title + ": " + asked + " asked, " + wrong + " wrong");
        if (wrong != 0 || asked == 0) {
            System.exit(1);
        }
    }

    static void feed(OneLamp lamp, String text) {
        for (char letter : text.toCharArray()) {
            lamp.feed(letter);
        }
    }

    static int law(OneLamp lamp, String text) {
        feed(lamp, text);
        return lamp.law();
    }

    /** A new wall of so many lamps on which these were changed, a digit each. */
    static OneLamp wall(int lamps, String changed) {
        OneLamp x = new OneLamp();
        x.lamps(lamps);
        change(x, changed);
        return x;
    }

    /** Changes lamps, a digit each; the answer to the last. */
    static int change(OneLamp lamp, String lamps) {
        int answer = 0;
        for (char digit : lamps.toCharArray()) {
            answer = lamp.change(digit - '0');
        }
        return answer;
    }

    /** A row of a sort on a shelf, with these elements. */
    static void row(OneLamp lamp, int shelf, int sort, long... elements) {
        lamp.row(shelf, sort, elements.length);
        for (int k = 0; k < elements.length; k++) {
            lamp.put(shelf, k, elements[k]);
        }
    }
}
