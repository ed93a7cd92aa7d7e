import java.util.NoSuchElementException;

/**
 * A coder for messages: codes whose lengths follow from weights, checksums, frames of blocks that
 * can be corrected, and a queue of messages by priority.
 */
public final class MessageCoder {
    private static final int SYMBOLS = 8;
    private static final int MOST_WEIGHT = 99;
    private static final int LONGEST_CODE = 7;
    private static final int MOST_PRIORITY = 5;
    private static final int MOST_MESSAGES = 8;
    private static final int MOST_SYMBOLS = 16;
    private static final int MOST_BITS = MOST_SYMBOLS * LONGEST_CODE;
    private static final int DATA_BITS = 4;
    private static final int BLOCK_BITS = 7;
    private static final int NUMBERS = 16;
    private static final int MOST_BLOCKS = (MOST_BITS + DATA_BITS - 1) / DATA_BITS;
    private static final int MOST_INPUT = 60;
    private static final int MOST_LINE = 32;
    private static final int MOST_UNDOS = 8;
    /** One row more than can be undone: the spare one takes the state before a change that may yet fail. */
    private static final int KEPT_STATES = MOST_UNDOS + 1;

    /** Answers in place of an exception, below every answer that a change can have. */
    private static final int BAD_ARGUMENT = -1;
    private static final int BAD_STATE = -2;
    private static final int NOT_FOUND = -3;
    private static final int NO_INDEX = -4;

    private static final int NONE = -1;
    private static final char NO_SIGN = (char) 0;

    /** The bits 10011, and the remainder of each 4 bits followed by four zeros. */
    private static final int DIVISOR = 19;
    private static final int DIVISOR_TOP = 16;
    private static final int[] REMAINDERS = {0, 3, 6, 5, 12, 15, 10, 9, 11, 8, 13, 14, 7, 4, 1, 2};

    private static final Command[] COMMANDS = Command.values();

    private final State state = new State();
    private final State saved = new State();
    private final State[] past = new State[KEPT_STATES];
    private final Program program = new Program();
    private final Text line = new Text(MOST_LINE);
    private final Bits bits = new Bits();
    private final Ranges ranges = new Ranges();
    private final Text trial = new Text(MOST_SYMBOLS);
    private final int[] commonRow = new int[MOST_SYMBOLS + 1];
    private boolean isSaved;
    private int pastPlace;
    private int undoable;
    private int errorPosition = NONE;
    private int failedCommand = NONE;

    public MessageCoder() {
        for (int i = 0; i < KEPT_STATES; i++) {
            past[i] = new State();
        }
    }

    // ---- Changes ----

    public int setWeight(char symbol, int weight) throws IllegalArgumentException {
        int answer = change(Command.WEIGHT, symbol, weight);
        if (answer == BAD_ARGUMENT) {
            throw new IllegalArgumentException("no such symbol, or the weight is out of range");
        }
        return answer;
    }

    public int addSymbol(char symbol) throws IllegalArgumentException, IllegalStateException {
        int answer = change(Command.DRAFT, symbol, 0);
        if (answer == BAD_ARGUMENT) {
            throw new IllegalArgumentException("no such symbol");
        }
        if (answer == BAD_STATE) {
            throw new IllegalStateException("the draft is full");
        }
        return answer;
    }

    public int clearDraft() {
        return change(Command.CLEAR, 0, 0);
    }

    public int post(int priority) throws IllegalArgumentException, IllegalStateException {
        int answer = change(Command.POST, priority, 0);
        if (answer == BAD_ARGUMENT) {
            throw new IllegalArgumentException("the priority is out of range");
        }
        if (answer == BAD_STATE) {
            throw new IllegalStateException("the draft is empty, or the queue is full");
        }
        return answer;
    }

    public int drop(int id) throws NoSuchElementException {
        int answer = change(Command.DROP, id, 0);
        if (answer == NOT_FOUND) {
            throw new NoSuchElementException("no such message");
        }
        return answer;
    }

    public int setPriority(int id, int priority) throws NoSuchElementException, IllegalArgumentException {
        int answer = change(Command.HURRY, id, priority);
        if (answer == NOT_FOUND) {
            throw new NoSuchElementException("no such message");
        }
        if (answer == BAD_ARGUMENT) {
            throw new IllegalArgumentException("the priority is out of range");
        }
        return answer;
    }

    public int learn(int id) throws NoSuchElementException {
        int answer = change(Command.LEARN, id, 0);
        if (answer == NOT_FOUND) {
            throw new NoSuchElementException("no such message");
        }
        return answer;
    }

    public int send() throws NoSuchElementException {
        int answer = change(Command.SEND, 0, 0);
        if (answer == NOT_FOUND) {
            throw new NoSuchElementException("the queue is empty");
        }
        return answer;
    }

    public int flip(int bit) throws IndexOutOfBoundsException {
        int answer = change(Command.FLIP, bit, 0);
        if (answer == NO_INDEX) {
            throw new IndexOutOfBoundsException("no frame, or no such bit");
        }
        return answer;
    }

    public int receive() throws NoSuchElementException {
        int answer = change(Command.RECEIVE, 0, 0);
        if (answer == NOT_FOUND) {
            throw new NoSuchElementException("no frame");
        }
        return answer;
    }

    // ---- Codes ----

    public int weightOf(char symbol) throws IllegalArgumentException {
        return state.code.weights[placeOf(symbol)];
    }

    public int totalWeight() {
        return state.code.weightSum();
    }

    public int codeLength(char symbol) throws IllegalArgumentException {
        return state.code.lengths[placeOf(symbol)];
    }

    public int codeValue(char symbol) throws IllegalArgumentException {
        return state.code.values[placeOf(symbol)];
    }

    public char symbolByCode(int rank) throws NoSuchElementException {
        if (rank < 0 || rank >= SYMBOLS) {
            throw new NoSuchElementException("no such rank");
        }
        return (char) ('a' + state.code.order[rank]);
    }

    public int longestCode() {
        return state.code.longest();
    }

    public int cost() {
        return state.code.joinedSum;
    }

    public int costByRanges() {
        return ranges.leastSum(state.code.weights);
    }

    public boolean isComplete() {
        return state.code.fillsAll();
    }

    public double meanLength() {
        return (double) state.code.joinedSum / state.code.weightSum();
    }

    // ---- Draft and messages ----

    public int draftLength() {
        return state.draft.length;
    }

    public char draftAt(int index) throws IndexOutOfBoundsException {
        if (!state.draft.has(index)) {
            throw new IndexOutOfBoundsException("no such index");
        }
        return state.draft.at(index);
    }

    public int draftBits() {
        return state.code.bitsFor(state.draft);
    }

    public int messageCount() {
        return state.queue.count;
    }

    public int messageAt(int rank) throws NoSuchElementException {
        Message message = state.queue.byRank(rank);
        if (message == null) {
            throw new NoSuchElementException("no such rank");
        }
        return message.id;
    }

    public int priorityOf(int id) throws NoSuchElementException {
        return messageOf(id).priority;
    }

    public int lengthOf(int id) throws NoSuchElementException {
        return messageOf(id).text.length;
    }

    public char symbolAt(int id, int index) throws NoSuchElementException, IndexOutOfBoundsException {
        Text text = messageOf(id).text;
        if (!text.has(index)) {
            throw new IndexOutOfBoundsException("no such index");
        }
        return text.at(index);
    }

    public int countOf(int id, char symbol) throws NoSuchElementException, IllegalArgumentException {
        Text text = messageOf(id).text;
        if (!isSymbol(symbol)) {
            throw new IllegalArgumentException("no such symbol");
        }
        return text.timesOf(symbol);
    }

    public int bitCount(int id) throws NoSuchElementException {
        return state.code.bitsFor(messageOf(id).text);
    }

    public int bitAt(int id, int index) throws NoSuchElementException, IndexOutOfBoundsException {
        bits.spell(messageOf(id).text, state.code);
        if (index < 0 || index >= bits.length) {
            throw new IndexOutOfBoundsException("no such index");
        }
        return bits.at(index);
    }

    public int checksum(int id) throws NoSuchElementException {
        bits.spell(messageOf(id).text, state.code);
        return bits.remainder();
    }

    public int checksumByTable(int id) throws NoSuchElementException {
        bits.spell(messageOf(id).text, state.code);
        return bits.remainderByTable();
    }

    public boolean areEqual(int id, int other) throws NoSuchElementException {
        return messageOf(id).text.sameAs(messageOf(other).text);
    }

    public int commonLength(int id, int other) throws NoSuchElementException {
        return messageOf(id).text.commonWith(messageOf(other).text, commonRow);
    }

    // ---- Frame and received text ----

    public boolean hasFrame() {
        return state.frame.exists();
    }

    public int frameLength() {
        return state.frame.bitTotal();
    }

    public int frameBit(int index) throws IndexOutOfBoundsException {
        if (!state.frame.hasBit(index)) {
            throw new IndexOutOfBoundsException("no frame, or no such index");
        }
        return state.frame.bit(index);
    }

    public int syndrome(int block) throws IndexOutOfBoundsException {
        return Frame.syndromeFor(blockOf(block));
    }

    public int correctedBits(int block) throws IndexOutOfBoundsException {
        return Frame.dataOf(Frame.corrected(blockOf(block)));
    }

    public int correctedBitsByDistance(int block) throws IndexOutOfBoundsException {
        return Frame.nearestData(blockOf(block));
    }

    public int damagedBlocks() {
        return state.frame.damaged();
    }

    public boolean isIntact() throws NoSuchElementException {
        if (!state.frame.exists()) {
            throw new NoSuchElementException("no frame");
        }
        state.frame.decode(trial);
        return trial.sameAs(state.frame.text);
    }

    public int receivedLength() {
        return state.received.length;
    }

    public char receivedAt(int index) throws IndexOutOfBoundsException {
        if (!state.received.has(index)) {
            throw new IndexOutOfBoundsException("no such index");
        }
        return state.received.at(index);
    }

    public int sentTotal() {
        return state.sentCount;
    }

    public int receivedTotal() {
        return state.receivedCount;
    }

    public int correctedTotal() {
        return state.correctedCount;
    }

    public int failedTotal() {
        return state.failedCount;
    }

    public float failedShare() throws ArithmeticException {
        if (state.receivedCount == 0) {
            throw new ArithmeticException("no frame has been received");
        }
        return (float) state.failedCount / state.receivedCount;
    }

    public boolean isConsistent() {
        return cost() == costByRanges() && isComplete() && checksumsAgree() && state.frame.correctionsAgree();
    }

    // ---- Line ----

    public int formatMessage(int id) throws NoSuchElementException {
        Message message = messageOf(id);
        line.clear();
        line.addNumber(message.id);
        line.add('!');
        line.addNumber(message.priority);
        line.add(':');
        line.addAll(message.text);
        return line.length;
    }

    public int formatCode(char symbol) throws IllegalArgumentException {
        int place = placeOf(symbol);
        int value = state.code.values[place];
        line.clear();
        line.add(symbol);
        line.add('=');
        for (int shift = state.code.lengths[place] - 1; shift >= 0; shift--) {
            line.add((value >> shift & 1) == 1 ? '1' : '0');
        }
        return line.length;
    }

    public char lineChar(int index) throws IndexOutOfBoundsException {
        if (!line.has(index)) {
            throw new IndexOutOfBoundsException("no such index");
        }
        return line.at(index);
    }

    // ---- Programs ----

    public int append(char character) throws IllegalArgumentException, IllegalStateException {
        if (character < ' ' || character > '~') {
            throw new IllegalArgumentException("the character is not in the range from ' ' to '~'");
        }
        if (!program.input.add(character)) {
            throw new IllegalStateException("the input buffer is full");
        }
        return program.input.length;
    }

    public int run() throws IllegalArgumentException, IllegalStateException {
        int malformedAt = program.read();
        if (malformedAt != NONE) {
            program.input.clear();
            errorPosition = malformedAt;
            throw new IllegalArgumentException("the program is malformed");
        }
        int failed = carryOutProgram();
        program.input.clear();
        if (failed != NONE) {
            failedCommand = failed;
            throw new IllegalStateException("a command failed");
        }
        return program.commandCount;
    }

    public int errorPosition() throws NoSuchElementException {
        if (errorPosition == NONE) {
            throw new NoSuchElementException("no program was malformed");
        }
        return errorPosition;
    }

    public int failedCommand() throws NoSuchElementException {
        if (failedCommand == NONE) {
            throw new NoSuchElementException("no command failed");
        }
        return failedCommand;
    }

    // ---- Undo ----

    public int undoableCount() {
        return undoable;
    }

    public int undo() throws IllegalStateException {
        if (undoable == 0) {
            throw new IllegalStateException("no change can be undone");
        }
        undoable--;
        pastPlace--;
        putBackBefore();
        return undoable;
    }

    public int save() {
        saved.copyFrom(state);
        isSaved = true;
        return state.queue.count;
    }

    public int restore() throws IllegalStateException {
        if (!isSaved) {
            throw new IllegalStateException("there is no saved copy");
        }
        state.copyFrom(saved);
        undoable = 0;
        return state.queue.count;
    }

    // ---- What the face is made of ----

    private static boolean isSymbol(char symbol) {
        return symbol >= 'a' && symbol < 'a' + SYMBOLS;
    }

    private static boolean isPriority(int priority) {
        return priority >= 1 && priority <= MOST_PRIORITY;
    }

    private static int placeOf(char symbol) throws IllegalArgumentException {
        if (!isSymbol(symbol)) {
            throw new IllegalArgumentException("no such symbol");
        }
        return symbol - 'a';
    }

    private Message messageOf(int id) throws NoSuchElementException {
        Message message = state.queue.byId(id);
        if (message == null) {
            throw new NoSuchElementException("no such message");
        }
        return message;
    }

    private int blockOf(int block) throws IndexOutOfBoundsException {
        if (!state.frame.hasBlock(block)) {
            throw new IndexOutOfBoundsException("no frame, or no such block");
        }
        return state.frame.blocks[block];
    }

    private boolean checksumsAgree() {
        for (int i = 0; i < state.queue.count; i++) {
            bits.spell(state.queue.rows[i].text, state.code);
            if (bits.remainder() != bits.remainderByTable()) {
                return false;
            }
        }
        return true;
    }

    /** Carries out one command as a change of its own; answers what the command answers, or a fault. */
    private int change(Command command, int first, int second) {
        keepBefore();
        int answer = perform(command, first, second);
        if (answer >= 0) {
            countChange();
        }
        return answer;
    }

    private int perform(Command command, int first, int second) {
        switch (command) {
            case WEIGHT:
                return state.putWeight((char) first, second);
            case DRAFT:
                return state.addToDraft((char) first);
            case CLEAR:
                return state.emptyDraft();
            case POST:
                return state.enqueue(first);
            case DROP:
                return state.discard(first);
            case HURRY:
                return state.putPriority(first, second);
            case LEARN:
                return state.learnFrom(first);
            case SEND:
                return state.sendFirst(bits);
            case FLIP:
                return state.flipBit(first);
            case RECEIVE:
                return state.receiveFrame();
            default:
                return BAD_STATE;
        }
    }

    /** Carries out all commands of the program as one change, or none; answers the index of the one that failed. */
    private int carryOutProgram() {
        keepBefore();
        for (int step = 0; step < program.stepCount; step++) {
            if (perform(program.commands[step], program.firsts[step], program.seconds[step]) < 0) {
                putBackBefore();
                return program.numbers[step];
            }
        }
        countChange();
        return NONE;
    }

    private State pastState() {
        return past[Math.floorMod(pastPlace, KEPT_STATES)];
    }

    private void keepBefore() {
        pastState().copyFrom(state);
    }

    private void putBackBefore() {
        state.copyFrom(pastState());
    }

    private void countChange() {
        pastPlace++;
        undoable = Math.min(undoable + 1, MOST_UNDOS);
    }

    /** Characters in a row of fixed room. */
    private static final class Text {
        private final char[] signs;
        private int length;

        Text(int room) {
            signs = new char[Math.max(room, 0)];
        }

        boolean has(int index) {
            return index >= 0 && index < length;
        }

        /** Answers NO_SIGN beyond the row, so that a reader need not know where the text ends. */
        char at(int index) {
            return has(index) ? signs[index] : NO_SIGN;
        }

        void clear() {
            length = 0;
        }

        boolean add(char sign) {
            if (length >= signs.length) {
                return false;
            }
            signs[length] = sign;
            length++;
            return true;
        }

        void addAll(Text other) {
            for (int i = 0; i < other.length; i++) {
                add(other.at(i));
            }
        }

        void addNumber(int number) {
            int power = 1;
            for (int digits = 1; digits < 10 && number / 10 >= power; digits++) {
                power *= 10;
            }
            for (; power > 0; power /= 10) {
                add((char) ('0' + number / power % 10));
            }
        }

        void copyFrom(Text other) {
            length = Math.min(other.length, signs.length);
            for (int i = 0; i < length; i++) {
                signs[i] = other.signs[i];
            }
        }

        boolean sameAs(Text other) {
            if (length != other.length) {
                return false;
            }
            for (int i = 0; i < length; i++) {
                if (at(i) != other.at(i)) {
                    return false;
                }
            }
            return true;
        }

        int timesOf(char sign) {
            int times = 0;
            for (int i = 0; i < length; i++) {
                if (at(i) == sign) {
                    times++;
                }
            }
            return times;
        }

        /** The longest common subsequence; row[j] is that of the signs so far and the other's first j. */
        int commonWith(Text other, int[] row) {
            for (int j = 0; j < row.length; j++) {
                row[j] = 0;
            }
            int common = 0;
            for (int i = 0; i < length; i++) {
                int diagonal = 0;
                for (int j = 1; j <= other.length && j < row.length; j++) {
                    int above = row[j];
                    common = at(i) == other.at(j - 1) ? diagonal + 1 : Math.max(above, row[j - 1]);
                    row[j] = common;
                    diagonal = above;
                }
            }
            return common;
        }
    }

    /** The weights of the symbols, and the codes that follow from them. */
    private static final class Code {
        private final int[] weights = new int[SYMBOLS];
        private final int[] lengths = new int[SYMBOLS];
        private final int[] values = new int[SYMBOLS];
        private final int[] order = new int[SYMBOLS];
        /** While groups are joined: each symbol's group, named by the group's first symbol, and the groups' weights. */
        private final int[] groups = new int[SYMBOLS];
        private final int[] groupWeights = new int[SYMBOLS];
        private int joinedSum;

        Code() {
            for (int s = 0; s < SYMBOLS; s++) {
                weights[s] = 1;
            }
            derive();
        }

        void copyFrom(Code other) {
            for (int s = 0; s < SYMBOLS; s++) {
                weights[s] = other.weights[s];
                lengths[s] = other.lengths[s];
                values[s] = other.values[s];
                order[s] = other.order[s];
            }
            joinedSum = other.joinedSum;
        }

        /** To be called after each change of the weights. */
        void derive() {
            joinAll();
            assignValues();
        }

        private void joinAll() {
            for (int s = 0; s < SYMBOLS; s++) {
                groups[s] = s;
                groupWeights[s] = weights[s];
                lengths[s] = 0;
            }
            joinedSum = 0;
            for (int joins = 1; joins < SYMBOLS; joins++) {
                int lowest = lowestGroup(NONE);
                join(lowest, lowestGroup(lowest));
            }
        }

        /** Groups are looked at in the order of their first symbols, so the first of equals is the lowest. */
        private int lowestGroup(int besides) {
            int lowest = NONE;
            for (int g = 0; g < SYMBOLS; g++) {
                boolean isGroup = groups[g] == g && g != besides;
                if (isGroup && (lowest == NONE || groupWeights[g] < groupWeights[lowest])) {
                    lowest = g;
                }
            }
            return lowest;
        }

        private void join(int one, int two) {
            if (one == NONE || two == NONE) {
                return;
            }
            int first = Math.min(one, two);
            groupWeights[first] = groupWeights[one] + groupWeights[two];
            joinedSum += groupWeights[first];
            for (int s = 0; s < SYMBOLS; s++) {
                if (groups[s] == one || groups[s] == two) {
                    groups[s] = first;
                    lengths[s]++;
                }
            }
        }

        private void assignValues() {
            int rank = 0;
            int next = 0;
            for (int length = 1; length <= LONGEST_CODE; length++) {
                next <<= 1;
                for (int s = 0; s < SYMBOLS; s++) {
                    if (lengths[s] == length && rank < SYMBOLS) {
                        values[s] = next;
                        order[rank] = s;
                        next++;
                        rank++;
                    }
                }
            }
        }

        int weightSum() {
            int sum = 0;
            for (int s = 0; s < SYMBOLS; s++) {
                sum += weights[s];
            }
            return sum;
        }

        int longest() {
            int longest = 0;
            for (int s = 0; s < SYMBOLS; s++) {
                longest = Math.max(longest, lengths[s]);
            }
            return longest;
        }

        /** Counts in parts of the share of a longest code, so that the sum stays whole. */
        boolean fillsAll() {
            int parts = 0;
            for (int s = 0; s < SYMBOLS; s++) {
                parts += 1 << (LONGEST_CODE - lengths[s]);
            }
            return parts == 1 << LONGEST_CODE;
        }

        int lengthFor(char symbol) {
            return isSymbol(symbol) ? lengths[symbol - 'a'] : 0;
        }

        int valueFor(char symbol) {
            return isSymbol(symbol) ? values[symbol - 'a'] : 0;
        }

        int bitsFor(Text text) {
            int total = 0;
            for (int i = 0; i < text.length; i++) {
                total += lengthFor(text.at(i));
            }
            return total;
        }

        /** The symbol whose code this is, or NO_SIGN. */
        char symbolFor(int value, int length) {
            for (int s = 0; s < SYMBOLS; s++) {
                if (lengths[s] == length && values[s] == value) {
                    return (char) ('a' + s);
                }
            }
            return NO_SIGN;
        }
    }

    /** The least sum over all ways to divide the symbols, ordered by weight, into ranges. */
    private static final class Ranges {
        private static final int MORE_THAN_ANY_SUM = 1 << 30;

        private final int[] sorted = new int[SYMBOLS];
        private final int[][] least = new int[SYMBOLS][SYMBOLS];

        int leastSum(int[] weights) {
            sort(weights);
            for (int size = 2; size <= SYMBOLS; size++) {
                for (int from = 0; from + size <= SYMBOLS; from++) {
                    divide(from, from + size - 1);
                }
            }
            return least[0][SYMBOLS - 1];
        }

        private void sort(int[] weights) {
            for (int s = 0; s < SYMBOLS && s < weights.length; s++) {
                int place = s;
                for (; place > 0 && sorted[place - 1] > weights[s]; place--) {
                    sorted[place] = sorted[place - 1];
                }
                sorted[place] = weights[s];
            }
        }

        private void divide(int from, int to) {
            int sum = sorted[to];
            int best = MORE_THAN_ANY_SUM;
            for (int last = from; last < to; last++) {
                sum += sorted[last];
                best = Math.min(best, least[from][last] + least[last + 1][to]);
            }
            least[from][to] = best + sum;
        }
    }

    /** The bits of a message, spelled out for a while. */
    private static final class Bits {
        private final int[] row = new int[MOST_BITS];
        private int length;

        void spell(Text text, Code code) {
            length = 0;
            for (int i = 0; i < text.length; i++) {
                int value = code.valueFor(text.at(i));
                for (int shift = code.lengthFor(text.at(i)) - 1; shift >= 0; shift--) {
                    add(value >> shift & 1);
                }
            }
        }

        private void add(int bit) {
            if (length < row.length) {
                row[length] = bit;
                length++;
            }
        }

        /** Zeros stand before and after the bits, as checksums and frames want them. */
        int at(int index) {
            return index >= 0 && index < length ? row[index] : 0;
        }

        int fourFrom(int start) {
            int four = 0;
            for (int i = 0; i < DATA_BITS; i++) {
                four = four << 1 | at(start + i);
            }
            return four;
        }

        int remainder() {
            int remainder = 0;
            for (int i = 0; i < length + DATA_BITS; i++) {
                remainder = remainder << 1 | at(i);
                if (remainder >= DIVISOR_TOP) {
                    remainder ^= DIVISOR;
                }
            }
            return remainder;
        }

        int remainderByTable() {
            int remainder = 0;
            int leadingZeros = Math.floorMod(-length, DATA_BITS);
            for (int start = -leadingZeros; start < length; start += DATA_BITS) {
                remainder = REMAINDERS[(remainder ^ fourFrom(start)) & NUMBERS - 1];
            }
            return remainder;
        }
    }

    private static final class Message {
        private final Text text = new Text(MOST_SYMBOLS);
        private int id;
        private int priority;

        void copyFrom(Message other) {
            text.copyFrom(other.text);
            id = other.id;
            priority = other.priority;
        }

        boolean isBefore(Message other) {
            return priority > other.priority || priority == other.priority && id < other.id;
        }
    }

    /** The messages that wait: the first count rows; the other rows are free. */
    private static final class Queue {
        private final Message[] rows = new Message[MOST_MESSAGES];
        private int count;
        private int nextId;

        Queue() {
            for (int i = 0; i < MOST_MESSAGES; i++) {
                rows[i] = new Message();
            }
        }

        void copyFrom(Queue other) {
            for (int i = 0; i < other.count; i++) {
                rows[i].copyFrom(other.rows[i]);
            }
            count = other.count;
            nextId = other.nextId;
        }

        boolean isFull() {
            return count >= MOST_MESSAGES;
        }

        int add(Text text, int priority) {
            if (isFull()) {
                return BAD_STATE;
            }
            Message message = rows[count];
            message.text.copyFrom(text);
            message.id = nextId;
            message.priority = priority;
            count++;
            nextId++;
            return message.id;
        }

        /** Moves the message behind the others, so that its row is free for another. */
        void remove(Message gone) {
            for (int i = 1; i < count; i++) {
                if (rows[i - 1] == gone) {
                    rows[i - 1] = rows[i];
                    rows[i] = gone;
                }
            }
            count--;
        }

        Message byId(int id) {
            for (int i = 0; i < count; i++) {
                if (rows[i].id == id) {
                    return rows[i];
                }
            }
            return null;
        }

        Message byRank(int rank) {
            for (int i = 0; i < count; i++) {
                if (rankFor(rows[i]) == rank) {
                    return rows[i];
                }
            }
            return null;
        }

        int rankFor(Message message) {
            int rank = 0;
            for (int i = 0; i < count; i++) {
                if (rows[i].isBefore(message)) {
                    rank++;
                }
            }
            return rank;
        }
    }

    /** Blocks of 7 bits, each held as a number whose highest bit has place 1; without blocks there is no frame. */
    private static final class Frame {
        private final int[] blocks = new int[MOST_BLOCKS];
        private final Text text = new Text(MOST_SYMBOLS);
        private final Code code = new Code();
        private int count;

        void copyFrom(Frame other) {
            for (int block = 0; block < other.count; block++) {
                blocks[block] = other.blocks[block];
            }
            text.copyFrom(other.text);
            code.copyFrom(other.code);
            count = other.count;
        }

        void make(Text message, Code present, Bits bits) {
            text.copyFrom(message);
            code.copyFrom(present);
            bits.spell(message, present);
            count = 0;
            for (int start = 0; start < bits.length && count < MOST_BLOCKS; start += DATA_BITS) {
                blocks[count] = blockFor(bits.fourFrom(start));
                count++;
            }
        }

        void remove() {
            count = 0;
        }

        boolean exists() {
            return count > 0;
        }

        int bitTotal() {
            return count * BLOCK_BITS;
        }

        boolean hasBit(int index) {
            return index >= 0 && index < bitTotal();
        }

        boolean hasBlock(int block) {
            return block >= 0 && block < count;
        }

        int bit(int index) {
            return hasBit(index) ? bitAtPlace(blocks[index / BLOCK_BITS], index % BLOCK_BITS + 1) : 0;
        }

        void turnBit(int index) {
            if (hasBit(index)) {
                blocks[index / BLOCK_BITS] ^= maskOf(index % BLOCK_BITS + 1);
            }
        }

        int damaged() {
            int damaged = 0;
            for (int block = 0; block < count; block++) {
                if (syndromeFor(blocks[block]) != 0) {
                    damaged++;
                }
            }
            return damaged;
        }

        boolean correctionsAgree() {
            for (int block = 0; block < count; block++) {
                if (dataOf(corrected(blocks[block])) != nearestData(blocks[block])) {
                    return false;
                }
            }
            return true;
        }

        void decode(Text into) {
            into.clear();
            int value = 0;
            int length = 0;
            for (int i = 0; i < count * DATA_BITS && into.length < text.length; i++) {
                int data = dataOf(corrected(blocks[i / DATA_BITS]));
                value = value << 1 | data >> (DATA_BITS - 1 - i % DATA_BITS) & 1;
                length++;
                char symbol = code.symbolFor(value, length);
                if (symbol != NO_SIGN) {
                    into.add(symbol);
                    value = 0;
                    length = 0;
                }
            }
        }

        private static int maskOf(int place) {
            return 1 << (BLOCK_BITS - place);
        }

        private static int bitAtPlace(int block, int place) {
            return block >> (BLOCK_BITS - place) & 1;
        }

        private static int blockFor(int data) {
            int d1 = data >> 3 & 1;
            int d2 = data >> 2 & 1;
            int d3 = data >> 1 & 1;
            int d4 = data & 1;
            int p1 = d1 ^ d2 ^ d4;
            int p2 = d1 ^ d3 ^ d4;
            int p3 = d2 ^ d3 ^ d4;
            return p1 << 6 | p2 << 5 | d1 << 4 | p3 << 3 | d2 << 2 | d3 << 1 | d4;
        }

        static int dataOf(int block) {
            return bitAtPlace(block, 3) << 3 | block & 7;
        }

        /** The three sums take the places whose numbers have 1, 2 and 4 in them, so the syndrome names a place. */
        static int syndromeFor(int block) {
            int syndrome = 0;
            for (int place = 1; place <= BLOCK_BITS; place++) {
                if (bitAtPlace(block, place) == 1) {
                    syndrome ^= place;
                }
            }
            return syndrome;
        }

        static int corrected(int block) {
            int syndrome = syndromeFor(block);
            return syndrome == 0 ? block : block ^ maskOf(syndrome);
        }

        static int nearestData(int block) {
            int nearest = 0;
            int fewest = BLOCK_BITS + 1;
            for (int data = 0; data < NUMBERS; data++) {
                int differing = Integer.bitCount(block ^ blockFor(data));
                if (differing < fewest) {
                    fewest = differing;
                    nearest = data;
                }
            }
            return nearest;
        }
    }

    /** Everything that changes can change; its changes answer a fault, and then have changed nothing. */
    private static final class State {
        private final Code code = new Code();
        private final Text draft = new Text(MOST_SYMBOLS);
        private final Queue queue = new Queue();
        private final Frame frame = new Frame();
        private final Text received = new Text(MOST_SYMBOLS);
        private int sentCount;
        private int receivedCount;
        private int correctedCount;
        private int failedCount;

        void copyFrom(State other) {
            code.copyFrom(other.code);
            draft.copyFrom(other.draft);
            queue.copyFrom(other.queue);
            frame.copyFrom(other.frame);
            received.copyFrom(other.received);
            sentCount = other.sentCount;
            receivedCount = other.receivedCount;
            correctedCount = other.correctedCount;
            failedCount = other.failedCount;
        }

        int putWeight(char symbol, int weight) {
            if (!isSymbol(symbol) || weight < 1 || weight > MOST_WEIGHT) {
                return BAD_ARGUMENT;
            }
            int before = code.weights[symbol - 'a'];
            code.weights[symbol - 'a'] = weight;
            code.derive();
            return before;
        }

        int addToDraft(char symbol) {
            if (!isSymbol(symbol)) {
                return BAD_ARGUMENT;
            }
            return draft.add(symbol) ? draft.length : BAD_STATE;
        }

        int emptyDraft() {
            int before = draft.length;
            draft.clear();
            return before;
        }

        int enqueue(int priority) {
            if (!isPriority(priority)) {
                return BAD_ARGUMENT;
            }
            if (draft.length == 0 || queue.isFull()) {
                return BAD_STATE;
            }
            int id = queue.add(draft, priority);
            draft.clear();
            return id;
        }

        int discard(int id) {
            Message message = queue.byId(id);
            if (message == null) {
                return NOT_FOUND;
            }
            queue.remove(message);
            return queue.count;
        }

        int putPriority(int id, int priority) {
            Message message = queue.byId(id);
            if (message == null) {
                return NOT_FOUND;
            }
            if (!isPriority(priority)) {
                return BAD_ARGUMENT;
            }
            message.priority = priority;
            return queue.rankFor(message);
        }

        int learnFrom(int id) {
            Message message = queue.byId(id);
            if (message == null) {
                return NOT_FOUND;
            }
            for (int s = 0; s < SYMBOLS; s++) {
                int raised = code.weights[s] + message.text.timesOf((char) ('a' + s));
                code.weights[s] = Math.min(raised, MOST_WEIGHT);
            }
            code.derive();
            return code.weightSum();
        }

        int sendFirst(Bits bits) {
            Message message = queue.byRank(0);
            if (message == null) {
                return NOT_FOUND;
            }
            frame.make(message.text, code, bits);
            queue.remove(message);
            sentCount++;
            return frame.bitTotal();
        }

        int flipBit(int bit) {
            if (!frame.hasBit(bit)) {
                return NO_INDEX;
            }
            frame.turnBit(bit);
            return frame.damaged();
        }

        int receiveFrame() {
            if (!frame.exists()) {
                return NOT_FOUND;
            }
            int damaged = frame.damaged();
            frame.decode(received);
            receivedCount++;
            correctedCount += damaged;
            if (!received.sameAs(frame.text)) {
                failedCount++;
            }
            frame.remove();
            return damaged;
        }
    }

    /** The forms of the commands: S is a symbol, L one or more symbols, D a digit, N one to three digits. */
    private enum Command {
        WEIGHT("weight S=N"),
        DRAFT("draft L"),
        CLEAR("clear"),
        POST("post D"),
        DROP("drop N"),
        HURRY("hurry N D"),
        LEARN("learn N"),
        SEND("send"),
        FLIP("flip N"),
        RECEIVE("receive");

        private final String form;

        Command(String form) {
            this.form = form;
        }
    }

    /** The input buffer, and the steps read from it: a command each, or one symbol of a draft. */
    private static final class Program {
        private final Text input = new Text(MOST_INPUT);
        private final Command[] commands = new Command[MOST_INPUT];
        private final int[] firsts = new int[MOST_INPUT];
        private final int[] seconds = new int[MOST_INPUT];
        /** The index of the command that each step belongs to. */
        private final int[] numbers = new int[MOST_INPUT];
        private int stepCount;
        private int commandCount;
        private int at;
        private int first;
        private int second;
        private boolean hasFirst;

        /** Reads the whole input; answers its error position, or NONE if it is a program. */
        int read() {
            stepCount = 0;
            commandCount = 0;
            at = 0;
            for (int n = 0; n < MOST_INPUT; n++) {
                if (!readsCommand()) {
                    return at;
                }
                if (at >= input.length) {
                    return NONE;
                }
                if (!readsSign(';')) {
                    return at;
                }
            }
            return at;
        }

        /** Where no command can be read, the place reached by the one that got furthest is the error position. */
        private boolean readsCommand() {
            int start = at;
            int furthest = at;
            for (int c = 0; c < COMMANDS.length; c++) {
                at = start;
                if (readsForm(COMMANDS[c].form)) {
                    keepCommand(COMMANDS[c]);
                    return true;
                }
                furthest = Math.max(furthest, at);
            }
            at = furthest;
            return false;
        }

        private boolean readsForm(String form) {
            hasFirst = false;
            first = 0;
            second = 0;
            for (int i = 0; i < form.length(); i++) {
                if (!readsPart(form.charAt(i))) {
                    return false;
                }
            }
            return true;
        }

        private boolean readsPart(char part) {
            switch (part) {
                case 'S':
                    return readsSymbol();
                case 'L':
                    return readsSymbols();
                case 'D':
                    return readsNumber(1);
                case 'N':
                    return readsNumber(3);
                default:
                    return readsSign(part);
            }
        }

        private boolean readsSign(char sign) {
            if (input.at(at) != sign) {
                return false;
            }
            at++;
            return true;
        }

        private boolean readsSymbol() {
            if (!isSymbol(input.at(at))) {
                return false;
            }
            give(input.at(at));
            at++;
            return true;
        }

        /** Gives where the symbols start and end, as two arguments. */
        private boolean readsSymbols() {
            int start = at;
            while (at < input.length && isSymbol(input.at(at))) {
                at++;
            }
            give(start);
            give(at);
            return at > start;
        }

        private boolean readsNumber(int mostDigits) {
            int start = at;
            int value = 0;
            for (int digits = 0; digits < mostDigits && isDigit(input.at(at)); digits++) {
                value = value * 10 + (input.at(at) - '0');
                at++;
            }
            give(value);
            return at > start;
        }

        private static boolean isDigit(char sign) {
            return sign >= '0' && sign <= '9';
        }

        private void give(int argument) {
            if (hasFirst) {
                second = argument;
            } else {
                first = argument;
                hasFirst = true;
            }
        }

        private void keepCommand(Command command) {
            if (command == Command.DRAFT) {
                for (int i = first; i < second; i++) {
                    keepStep(command, input.at(i), 0);
                }
            } else {
                keepStep(command, first, second);
            }
            commandCount++;
        }

        /** Each step stands for at least one character of the input, so there is room for all. */
        private void keepStep(Command command, int one, int two) {
            if (stepCount < MOST_INPUT) {
                commands[stepCount] = command;
                firsts[stepCount] = one;
                seconds[stepCount] = two;
                numbers[stepCount] = commandCount;
                stepCount++;
            }
        }
    }
}
