import java.io.IOException;
import java.io.UncheckedIOException;
import java.util.List;
import java.util.function.BiFunction;
import java.util.function.IntFunction;

/** What the tests of boundaries share: each test quotes the sentence of the document that it would find broken. */
abstract class Boundaries extends Coders {
    /** The ids that are not in the queue of scattered(): dropped, sent, taken back, not yet given, and no ids at all. */
    static final int[] GONE = {Integer.MIN_VALUE, -1000, -1, 0, 2, 9, 10, 1000, Integer.MAX_VALUE};
    static final int[] QUEUED = {1, 3, 4, 5, 6, 7, 8};
    static final char[] NO_SYMBOLS = {(char) 0, ' ', 'A', 'H', '`', 'i', 'z', (char) 127, (char) 255, (char) 0xffff};
    static final String SYMBOLS = "abcdefgh";
    static final String LONGEST = "abcdefghabcdefgh";

    private static final Sentences DOCUMENT = document();
    private static String section = "";

    Boundaries() {
    }

    private static Sentences document() {
        try {
            return new Sentences();
        } catch (IOException unreadable) {
            throw new UncheckedIOException(unreadable);
        }
    }

    // ---- Sentences ----

    static void section(String name) {
        section = name;
    }

    static void says(String words, Runnable test) {
        about(section + ": \"" + words + "\"");
        same("in the document", DOCUMENT.quote(section, words), true);
        try {
            test.run();
        } catch (RuntimeException thrown) {
            same("the test", "ended by " + thrown, "ended");
        }
    }

    /** Fails if a sentence of the document has no test, but for those that promise nothing. */
    static void checkNoneLeftOut() {
        for (String name : DOCUMENT.sections()) {
            if (!name.equals("The public face") && !name.equals("Not promised")) {
                about(name);
                same("sentences without a test", DOCUMENT.leftOut(name), List.of());
            }
        }
    }

    // ---- Checks ----

    static void refusesSymbols(BiFunction<MessageCoder, Character, Object> call) {
        MessageCoder coder = scattered();
        for (char wrong : NO_SYMBOLS) {
            fails("symbol " + (int) wrong, ARGUMENT, () -> call.apply(coder, wrong));
        }
    }

    static void refusesGone(BiFunction<MessageCoder, Integer, Object> call) {
        MessageCoder coder = scattered();
        for (int gone : GONE) {
            fails("id " + gone, ELEMENT, () -> call.apply(coder, gone));
        }
        fails("a new object", ELEMENT, () -> call.apply(new MessageCoder(), 0));
    }

    /** Each id is asked of a coder of its own. */
    static void answersQueued(BiFunction<MessageCoder, Integer, Object> call, IntFunction<Object> due) {
        for (int id : QUEUED) {
            same("id " + id, call.apply(scattered(), id), due.apply(id));
        }
    }

    static void answersSymbols(MessageCoder coder, BiFunction<MessageCoder, Character, Object> call, Object... due) {
        for (int s = 0; s < SYMBOLS.length(); s++) {
            same("symbol " + SYMBOLS.charAt(s), call.apply(coder, SYMBOLS.charAt(s)), due[s]);
        }
    }

    /** The first index that is missing stands behind the last one that is there. */
    static void refusesBeyond(int length, Class<? extends RuntimeException> due, IntFunction<Object> call) {
        for (int wrong : new int[] {Integer.MIN_VALUE, -length - 1, -length, -1, length, length + 1, Integer.MAX_VALUE}) {
            fails(wrong + " of " + length, due, () -> call.apply(wrong));
        }
    }

    static void fails(MessageCoder coder, String program, Class<? extends RuntimeException> due) {
        type(coder, program);
        fails("program " + program, due, coder::run);
    }

    // ---- Coders ----

    /**
     * Seven messages: id n has the first n + 1 symbols and priority 1 + n % 5. Of the missing ids, 0 was dropped, 2
     * was sent, and 9 was taken back.
     */
    static MessageCoder scattered() {
        MessageCoder coder = new MessageCoder();
        for (int id = 0; id <= 9; id++) {
            post(coder, scatteredText(id), 1 + id % 5);
            if (id == 0) {
                coder.drop(0);
            } else if (id == 2) {
                coder.send();
            }
        }
        coder.undo();
        coder.clearDraft();
        return coder;
    }

    static String scatteredText(int id) {
        return LONGEST.substring(0, id + 1);
    }

    static MessageCoder withFullQueue() {
        MessageCoder coder = new MessageCoder();
        for (int id = 0; id < 8; id++) {
            post(coder, "a", 3);
        }
        return coder;
    }

    /** A frame of 196 bits, the most there can be: 16 symbols of 7 bits. */
    static MessageCoder withLongestFrame() {
        MessageCoder coder = withLongCodes();
        post(coder, "hghghghghghghghg", 1);
        coder.send();
        return coder;
    }

    /** A frame of 7 bits, the fewest there can be: one bit and three zeros. */
    static MessageCoder withShortestFrame() {
        MessageCoder coder = withLongCodes();
        post(coder, "a", 1);
        coder.send();
        return coder;
    }
}
