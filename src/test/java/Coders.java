import java.util.NoSuchElementException;
import java.util.function.Function;

/** What the tests of coders share: it makes coders, tells what they hold, and checks their answers. */
abstract class Coders {
    static final Class<IllegalArgumentException> ARGUMENT = IllegalArgumentException.class;
    static final Class<IllegalStateException> STATE = IllegalStateException.class;
    static final Class<NoSuchElementException> ELEMENT = NoSuchElementException.class;
    static final Class<IndexOutOfBoundsException> INDEX = IndexOutOfBoundsException.class;

    private static String subject = "";

    Coders() {
    }

    // ---- Checks ----

    /** Names what the checks from here on are about. */
    static void about(String what) {
        subject = what;
    }

    static void same(String what, Object got, Object want) {
        Check.same(subject + ", " + what, got, want);
    }

    static void fails(String what, Class<? extends RuntimeException> due, Check.Call call) {
        Check.fails(subject + ", " + what, due, call);
    }

    static void refusesSymbols(Function<Character, Object> call) {
        for (char wrong : new char[] {'`', 'i', 'A', 'H', ' ', (char) 0, (char) 255, (char) 0xffff, '0', 'z'}) {
            fails("symbol " + (int) wrong, ARGUMENT, () -> call.apply(wrong));
        }
    }

    /** For a coder that has the message 0 alone. */
    static void refusesIds(Function<Integer, Object> call) {
        for (int wrong : new int[] {Integer.MIN_VALUE, -1, 1, 2, 8, Integer.MAX_VALUE}) {
            fails("id " + wrong, ELEMENT, () -> call.apply(wrong));
        }
    }

    // ---- Coders ----

    static void draft(MessageCoder coder, String symbols) {
        for (char symbol : symbols.toCharArray()) {
            coder.addSymbol(symbol);
        }
    }

    static int post(MessageCoder coder, String symbols, int priority) {
        draft(coder, symbols);
        return coder.post(priority);
    }

    static MessageCoder withMessage(String symbols) {
        MessageCoder coder = new MessageCoder();
        post(coder, symbols, 3);
        return coder;
    }

    static MessageCoder withFrame(String symbols) {
        MessageCoder coder = withMessage(symbols);
        coder.send();
        return coder;
    }

    static void weigh(MessageCoder coder, int... weights) {
        for (int s = 0; s < weights.length; s++) {
            coder.setWeight((char) ('a' + s), weights[s]);
        }
    }

    /** Codes 0, 10, 110, up to 1111110 and 1111111. */
    static MessageCoder withLongCodes() {
        MessageCoder coder = new MessageCoder();
        weigh(coder, 64, 32, 16, 8, 4, 2, 1, 1);
        return coder;
    }

    /** Of equal weights 2, the group of a is joined with that of b and c, and that of d is left for later. */
    static MessageCoder withTies() {
        MessageCoder coder = new MessageCoder();
        weigh(coder, 2, 1, 1, 2, 99, 99, 99, 99);
        return coder;
    }

    static void type(MessageCoder coder, String program) {
        for (char character : program.toCharArray()) {
            coder.append(character);
        }
    }

    static int run(MessageCoder coder, String program) {
        type(coder, program);
        return coder.run();
    }

    static void flipAll(MessageCoder coder, int from, int to) {
        for (int bit = from; bit < to; bit++) {
            coder.flip(bit);
        }
    }

    // ---- What they hold ----

    static String draftOf(MessageCoder coder) {
        StringBuilder text = new StringBuilder();
        for (int i = 0; i < coder.draftLength(); i++) {
            text.append(coder.draftAt(i));
        }
        return text.toString();
    }

    static String textOf(MessageCoder coder, int id) {
        StringBuilder text = new StringBuilder();
        for (int i = 0; i < coder.lengthOf(id); i++) {
            text.append(coder.symbolAt(id, i));
        }
        return text.toString();
    }

    static String bitsOf(MessageCoder coder, int id) {
        StringBuilder bits = new StringBuilder();
        for (int i = 0; i < coder.bitCount(id); i++) {
            bits.append(coder.bitAt(id, i));
        }
        return bits.toString();
    }

    static String frameOf(MessageCoder coder) {
        StringBuilder bits = new StringBuilder();
        for (int i = 0; i < coder.frameLength(); i++) {
            bits.append(coder.frameBit(i));
        }
        return bits.toString();
    }

    static String receivedOf(MessageCoder coder) {
        StringBuilder text = new StringBuilder();
        for (int i = 0; i < coder.receivedLength(); i++) {
            text.append(coder.receivedAt(i));
        }
        return text.toString();
    }

    static String queueOf(MessageCoder coder) {
        StringBuilder ids = new StringBuilder();
        for (int rank = 0; rank < coder.messageCount(); rank++) {
            ids.append(coder.messageAt(rank)).append(' ');
        }
        return ids.toString().trim();
    }

    static String lengthsOf(MessageCoder coder) {
        StringBuilder lengths = new StringBuilder();
        for (char symbol = 'a'; symbol <= 'h'; symbol++) {
            lengths.append(coder.codeLength(symbol));
        }
        return lengths.toString();
    }

    static String orderOf(MessageCoder coder) {
        StringBuilder symbols = new StringBuilder();
        for (int rank = 0; rank < 8; rank++) {
            symbols.append(coder.symbolByCode(rank));
        }
        return symbols.toString();
    }

    static String codeOf(MessageCoder coder, char symbol) {
        String bits = Integer.toBinaryString(coder.codeValue(symbol));
        return "0".repeat(coder.codeLength(symbol) - bits.length()) + bits;
    }

    /** The line must end after this many characters. */
    static String lineOf(MessageCoder coder, int length) {
        StringBuilder line = new StringBuilder();
        for (int i = 0; i < length; i++) {
            line.append(coder.lineChar(i));
        }
        fails("end of the line", INDEX, () -> coder.lineChar(length));
        return line.toString();
    }

    /** Everything that changes can change, but for the next id, which only a post tells. */
    static String stateOf(MessageCoder coder) {
        StringBuilder state = new StringBuilder();
        for (char symbol : orderOf(coder).toCharArray()) {
            state.append(symbol).append(codeOf(coder, symbol)).append(':').append(coder.weightOf(symbol)).append(' ');
        }
        state.append(coder.cost()).append(" draft ").append(draftOf(coder)).append(" queue ");
        for (int rank = 0; rank < coder.messageCount(); rank++) {
            int id = coder.messageAt(rank);
            state.append(id).append('!').append(coder.priorityOf(id)).append(':').append(textOf(coder, id)).append(' ');
        }
        return state + "frame " + frameOf(coder) + " " + Check.outcome(coder::isIntact) + " received " + receivedOf(coder)
                + " totals " + coder.sentTotal() + " " + coder.receivedTotal() + " " + coder.correctedTotal() + " "
                + coder.failedTotal();
    }
}
