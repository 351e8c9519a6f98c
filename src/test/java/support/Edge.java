import java.io.IOException;
import java.nio.file.Files;
import java.nio.file.Path;
import java.util.NoSuchElementException;

/** What the tests of edges share: the sentence that is tested, books given as texts, answers compared. */
final class Edge {
    private static final int TOLD_MOST = 40;
    private static final Path DOCUMENT = Path.of("../shared/DOC.md");
    private static String document;
    private static String words = "";
    private static int wrong = 0;
    private static int checked = 0;

    private Edge() {
    }

    /** What follows tests these words; they must stand in the document just so, but for blanks and line ends. */
    static void sentence(String quoted) {
        words = quoted;
        if (document == null) {
            document = plain(read());
        }
        if (!document.isEmpty()) {
            is("it stands in the document", document.contains(plain(quoted)), true);
        }
    }

    /** The document; nothing if it isn't there, as the answers can be tested without it. */
    private static String read() {
        try {
            return Files.exists(DOCUMENT) ? Files.readString(DOCUMENT) : "";
        } catch (IOException e) {
            return "";
        }
    }

    private static String plain(String text) {
        return text.replaceAll("\\s+", " ");
    }

    static void is(String what, boolean got, boolean due) {
        is(what, got ? 1 : 0, due ? 1 : 0);
    }

    static void is(String what, int got, int due) {
        is(what, "" + got, "" + due);
    }

    static void is(String what, String got, String due) {
        checked++;
        if (!got.equals(due)) {
            wrong++;
            if (wrong > TOLD_MOST) {
                return;
            }
            System.out.println("\"" + words + "\": " + what + " answered " + got + ", due is " + due);
        }
    }

    /** A call that is refused: its answer, and the number of the refusal. */
    static void refused(String what, NotAtOnce x, int got, int answer, int trouble) {
        is(what, got, answer);
        is(what + ", trouble", x.trouble(), trouble);
    }

    static void refused(String what, NotAtOnce x, boolean got, int trouble) {
        is(what, got, false);
        is(what + ", trouble", x.trouble(), trouble);
    }

    static NotAtOnce of(String text) {
        NotAtOnce x = new NotAtOnce();
        is("a book: " + text, give(x, text) > 0, true);
        return x;
    }

    /** Feeds a text, what is behind its end being no text at all, and makes a book of it. */
    static int give(NotAtOnce x, String text) {
        feed(x, text);
        return x.book(text.length());
    }

    static void feed(NotAtOnce x, String text) {
        StringBuilder padded = new StringBuilder(text);
        while (padded.length() % 20 != 0) {
            padded.append('?');
        }
        for (int i = 0; i < padded.length(); i += 20) {
            int[] five = new int[5];
            for (int k = 0; k < 20; k++) {
                five[k / 4] = five[k / 4] << 8 | padded.charAt(i + k);
            }
            x.feed(five[0], five[1], five[2], five[3], five[4]);
        }
    }

    /** The text is a BOOK; the object that has it. */
    static NotAtOnce good(String text) {
        NotAtOnce x = new NotAtOnce();
        is("looks of: " + text, give(x, text) > 0, true);
        is("trouble of: " + text, x.trouble(), 0);
        is("fault of: " + text, x.fault(), 0);
        is("where of: " + text, x.where(), -1);
        return x;
    }

    /** The text, without its ^, has a FAULT where that stood. */
    static void faulty(String marked, int fault) {
        int place = marked.indexOf('^');
        faulty(marked.substring(0, place) + marked.substring(place + 1), fault, place);
    }

    static void faulty(String text, int fault, int place) {
        NotAtOnce x = new NotAtOnce();
        refused("book of: " + text, x, give(x, text), -1, 4);
        is("fault of: " + text, x.fault(), fault);
        is("where of: " + text, x.where(), place);
        is("looks behind: " + text, x.size(0), 0);
        is("tape behind: " + text, x.size(10), 0);
    }

    static void times(String what, NotAtOnce x, int set, int... due) {
        for (int outcome = 0; outcome < due.length; outcome++) {
            is(what + ", times of " + set + " " + outcome, x.times(set, outcome), due[outcome]);
        }
        is(what + ", no outcome more of " + set, x.times(set, due.length), -1);
    }

    static void coins(String what, NotAtOnce x, int set, int... due) {
        for (int outcome = 0; outcome < due.length; outcome++) {
            is(what + ", coins on " + set + " " + outcome, x.coins(set, outcome), due[outcome]);
        }
        is(what + ", no outcome more of " + set, x.coins(set, due.length), -1);
    }

    /** The answer of led; -77 if it throws. */
    static int led(NotAtOnce x, int i) {
        try {
            return x.led(i);
        } catch (NoSuchElementException e) {
            return -77;
        }
    }

    static void end(String name) {
        System.out.println(name + ": " + checked + " answers checked, " + wrong + " wrong");
        if (wrong != 0) {
            System.exit(1);
        }
    }
}
