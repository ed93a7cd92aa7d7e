import java.util.ArrayDeque;
import java.util.ArrayList;
import java.util.Comparator;
import java.util.Deque;
import java.util.List;
import java.util.NoSuchElementException;
import java.util.TreeMap;
import java.util.regex.Matcher;
import java.util.regex.Pattern;

/**
 * The document once more, written with texts and the Java library instead of rows, so that it is unlikely
 * to share a mistake with the program.
 */
final class Model {
    private static final String SYMBOLS = "abcdefgh";
    private static final String NUMBER = "[0-9]{1,3}";
    private static final String COMMAND = "(?:weight [a-h]=" + NUMBER + "|draft [a-h]+|clear|post [0-9]|drop " + NUMBER
            + "|hurry " + NUMBER + " [0-9]|learn " + NUMBER + "|send|flip " + NUMBER + "|receive)";
    private static final Pattern PROGRAM = Pattern.compile(COMMAND + "(?:;" + COMMAND + ")*");

    private record Message(int id, int priority, String text) {
    }

    private record Frame(String bits, String text, TreeMap<Character, String> codes) {
    }

    private record State(TreeMap<Character, Integer> weights, String draft, List<Message> queue, int nextId,
            Frame frame, String received, int sent, int receivedFrames, int corrected, int failed) {
    }

    private State now = new State(equalWeights(), "", List.of(), 0, null, "", 0, 0, 0, 0);
    private State saved = null;
    private final Deque<State> past = new ArrayDeque<>();
    private String line = "";
    private String buffer = "";
    private Integer errorPosition = null;
    private Integer failedCommand = null;

    private static TreeMap<Character, Integer> equalWeights() {
        TreeMap<Character, Integer> weights = new TreeMap<>();
        for (char symbol : SYMBOLS.toCharArray()) {
            weights.put(symbol, 1);
        }
        return weights;
    }

    // ---- Codes ----

    private static TreeMap<Character, Integer> lengths(TreeMap<Character, Integer> weights) {
        List<String> groups = new ArrayList<>();
        TreeMap<Character, Integer> lengths = new TreeMap<>();
        for (char symbol : weights.keySet()) {
            groups.add(String.valueOf(symbol));
            lengths.put(symbol, 0);
        }
        Comparator<String> byWeight = Comparator.comparing(group -> group.chars().map(s -> weights.get((char) s)).sum());
        Comparator<String> byFirst = Comparator.comparing(group -> group.chars().min().getAsInt());
        while (groups.size() > 1) {
            groups.sort(byWeight.thenComparing(byFirst));
            String joined = groups.remove(0) + groups.remove(0);
            for (char symbol : joined.toCharArray()) {
                lengths.merge(symbol, 1, Integer::sum);
            }
            groups.add(joined);
        }
        return lengths;
    }

    private static String order(TreeMap<Character, Integer> weights) {
        TreeMap<Character, Integer> lengths = lengths(weights);
        List<Character> symbols = new ArrayList<>(lengths.keySet());
        symbols.sort(Comparator.comparing((Character s) -> lengths.get(s)).thenComparing(s -> s));
        StringBuilder order = new StringBuilder();
        symbols.forEach(order::append);
        return order.toString();
    }

    private static TreeMap<Character, String> codes(TreeMap<Character, Integer> weights) {
        TreeMap<Character, Integer> lengths = lengths(weights);
        TreeMap<Character, String> codes = new TreeMap<>();
        String before = null;
        for (char symbol : order(weights).toCharArray()) {
            String code = before == null ? "" : binary(Integer.parseInt(before, 2) + 1, before.length());
            code += "0".repeat(lengths.get(symbol) - code.length());
            codes.put(symbol, code);
            before = code;
        }
        return codes;
    }

    private static String binary(int number, int digits) {
        String bits = Integer.toBinaryString(number);
        return "0".repeat(digits - bits.length()) + bits;
    }

    private static String bits(String text, TreeMap<Character, String> codes) {
        StringBuilder bits = new StringBuilder();
        for (char symbol : text.toCharArray()) {
            bits.append(codes.get(symbol));
        }
        return bits.toString();
    }

    private static int divided(String bits) {
        char[] rest = (bits + "0000").toCharArray();
        for (int i = 0; i + 4 < rest.length; i++) {
            if (rest[i] == '1') {
                for (int k = 0; k < 5; k++) {
                    rest[i + k] = rest[i + k] == "10011".charAt(k) ? '0' : '1';
                }
            }
        }
        return Integer.parseInt(new String(rest).substring(rest.length - 4), 2);
    }

    int cost() {
        TreeMap<Character, Integer> lengths = lengths(now.weights);
        return now.weights.keySet().stream().mapToInt(s -> now.weights.get(s) * lengths.get(s)).sum();
    }

    // ---- Frames ----

    private static String block(String d) {
        int d1 = d.charAt(0) - '0';
        int d2 = d.charAt(1) - '0';
        int d3 = d.charAt(2) - '0';
        int d4 = d.charAt(3) - '0';
        return "" + (d1 + d2 + d4) % 2 + (d1 + d3 + d4) % 2 + d1 + (d2 + d3 + d4) % 2 + d2 + d3 + d4;
    }

    private static int syndromeOf(String block) {
        int[] b = block.chars().map(c -> c - '0').toArray();
        return (b[0] + b[2] + b[4] + b[6]) % 2 + 2 * ((b[1] + b[2] + b[5] + b[6]) % 2)
                + 4 * ((b[3] + b[4] + b[5] + b[6]) % 2);
    }

    private static String data(String block) {
        int syndrome = syndromeOf(block);
        StringBuilder fixed = new StringBuilder(block);
        if (syndrome != 0) {
            fixed.setCharAt(syndrome - 1, fixed.charAt(syndrome - 1) == '0' ? '1' : '0');
        }
        return "" + fixed.charAt(2) + fixed.charAt(4) + fixed.charAt(5) + fixed.charAt(6);
    }

    private String blockAt(int block) {
        if (now.frame == null || block < 0 || block >= now.frame.bits.length() / 7) {
            throw new IndexOutOfBoundsException();
        }
        return now.frame.bits.substring(block * 7, block * 7 + 7);
    }

    int damagedBlocks() {
        int damaged = 0;
        for (int block = 0; now.frame != null && block < now.frame.bits.length() / 7; block++) {
            damaged += syndromeOf(blockAt(block)) == 0 ? 0 : 1;
        }
        return damaged;
    }

    private String decoded() {
        StringBuilder bits = new StringBuilder();
        for (int block = 0; block < now.frame.bits.length() / 7; block++) {
            bits.append(data(blockAt(block)));
        }
        StringBuilder text = new StringBuilder();
        String rest = bits.toString();
        boolean more = true;
        while (more && text.length() < now.frame.text.length()) {
            more = false;
            for (char symbol : now.frame.codes.keySet()) {
                String code = now.frame.codes.get(symbol);
                if (!more && rest.startsWith(code)) {
                    text.append(symbol);
                    rest = rest.substring(code.length());
                    more = true;
                }
            }
        }
        return text.toString();
    }

    // ---- Changes ----

    private int changed(State next, int answer) {
        past.push(now);
        if (past.size() > 8) {
            past.removeLast();
        }
        now = next;
        return answer;
    }

    private State with(TreeMap<Character, Integer> weights, String draft, List<Message> queue, int nextId) {
        return new State(weights, draft, queue, nextId, now.frame, now.received, now.sent, now.receivedFrames,
                now.corrected, now.failed);
    }

    private State withFrame(List<Message> queue, Frame frame, int sent) {
        return new State(now.weights, now.draft, queue, now.nextId, frame, now.received, sent, now.receivedFrames,
                now.corrected, now.failed);
    }

    private static void needSymbol(char symbol) {
        if (SYMBOLS.indexOf(symbol) < 0) {
            throw new IllegalArgumentException();
        }
    }

    private static void needPriority(int priority) {
        if (priority < 1 || priority > 5) {
            throw new IllegalArgumentException();
        }
    }

    private Message message(int id) {
        return now.queue.stream().filter(m -> m.id == id).findFirst().orElseThrow(NoSuchElementException::new);
    }

    private static List<Message> sorted(List<Message> queue) {
        List<Message> sorted = new ArrayList<>(queue);
        sorted.sort(Comparator.comparing((Message m) -> -m.priority).thenComparing(m -> m.id));
        return sorted;
    }

    private List<Message> queueWithout(int id) {
        return now.queue.stream().filter(m -> m.id != id).toList();
    }

    int setWeight(char symbol, int weight) {
        needSymbol(symbol);
        if (weight < 1 || weight > 99) {
            throw new IllegalArgumentException();
        }
        TreeMap<Character, Integer> weights = new TreeMap<>(now.weights);
        int before = weights.put(symbol, weight);
        return changed(with(weights, now.draft, now.queue, now.nextId), before);
    }

    int addSymbol(char symbol) {
        needSymbol(symbol);
        if (now.draft.length() == 16) {
            throw new IllegalStateException();
        }
        return changed(with(now.weights, now.draft + symbol, now.queue, now.nextId), now.draft.length() + 1);
    }

    int clearDraft() {
        return changed(with(now.weights, "", now.queue, now.nextId), now.draft.length());
    }

    int post(int priority) {
        needPriority(priority);
        if (now.draft.isEmpty() || now.queue.size() == 8) {
            throw new IllegalStateException();
        }
        List<Message> queue = new ArrayList<>(now.queue);
        queue.add(new Message(now.nextId, priority, now.draft));
        return changed(with(now.weights, "", sorted(queue), now.nextId + 1), now.nextId);
    }

    int drop(int id) {
        message(id);
        return changed(with(now.weights, now.draft, queueWithout(id), now.nextId), now.queue.size() - 1);
    }

    int setPriority(int id, int priority) {
        Message message = message(id);
        needPriority(priority);
        Message hurried = new Message(id, priority, message.text);
        List<Message> queue = new ArrayList<>(queueWithout(id));
        queue.add(hurried);
        queue = sorted(queue);
        return changed(with(now.weights, now.draft, queue, now.nextId), queue.indexOf(hurried));
    }

    int learn(int id) {
        TreeMap<Character, Integer> weights = new TreeMap<>(now.weights);
        for (char symbol : message(id).text.toCharArray()) {
            weights.merge(symbol, 1, (one, two) -> one == 99 ? 99 : one + two);
        }
        int sum = weights.values().stream().mapToInt(w -> w).sum();
        return changed(with(weights, now.draft, now.queue, now.nextId), sum);
    }

    int send() {
        Message first = now.queue.stream().findFirst().orElseThrow(NoSuchElementException::new);
        TreeMap<Character, String> codes = codes(now.weights);
        String bits = bits(first.text, codes);
        bits += "0".repeat((4 - bits.length() % 4) % 4);
        StringBuilder frame = new StringBuilder();
        for (int i = 0; i < bits.length(); i += 4) {
            frame.append(block(bits.substring(i, i + 4)));
        }
        Frame made = new Frame(frame.toString(), first.text, codes);
        return changed(withFrame(queueWithout(first.id), made, now.sent + 1), frame.length());
    }

    int flip(int bit) {
        frameBit(bit);
        StringBuilder bits = new StringBuilder(now.frame.bits);
        bits.setCharAt(bit, bits.charAt(bit) == '0' ? '1' : '0');
        changed(withFrame(now.queue, new Frame(bits.toString(), now.frame.text, now.frame.codes), now.sent), 0);
        return damagedBlocks();
    }

    int receive() {
        boolean failed = !isIntact();
        int damaged = damagedBlocks();
        return changed(new State(now.weights, now.draft, now.queue, now.nextId, null, decoded(), now.sent,
                now.receivedFrames + 1, now.corrected + damaged, now.failed + (failed ? 1 : 0)), damaged);
    }

    // ---- Answers ----

    int weightOf(char symbol) {
        needSymbol(symbol);
        return now.weights.get(symbol);
    }

    int totalWeight() {
        return now.weights.values().stream().mapToInt(w -> w).sum();
    }

    int codeLength(char symbol) {
        needSymbol(symbol);
        return codes(now.weights).get(symbol).length();
    }

    int codeValue(char symbol) {
        needSymbol(symbol);
        return Integer.parseInt(codes(now.weights).get(symbol), 2);
    }

    char symbolByCode(int rank) {
        if (rank < 0 || rank > 7) {
            throw new NoSuchElementException();
        }
        return order(now.weights).charAt(rank);
    }

    int longestCode() {
        return codes(now.weights).values().stream().mapToInt(String::length).max().getAsInt();
    }

    double meanLength() {
        return (double) cost() / totalWeight();
    }

    int draftLength() {
        return now.draft.length();
    }

    private static char charIn(String text, int index) {
        if (index < 0 || index >= text.length()) {
            throw new IndexOutOfBoundsException();
        }
        return text.charAt(index);
    }

    char draftAt(int index) {
        return charIn(now.draft, index);
    }

    int draftBits() {
        return bits(now.draft, codes(now.weights)).length();
    }

    int messageCount() {
        return now.queue.size();
    }

    int messageAt(int rank) {
        if (rank < 0 || rank >= now.queue.size()) {
            throw new NoSuchElementException();
        }
        return now.queue.get(rank).id;
    }

    int priorityOf(int id) {
        return message(id).priority;
    }

    int lengthOf(int id) {
        return message(id).text.length();
    }

    char symbolAt(int id, int index) {
        return charIn(message(id).text, index);
    }

    int countOf(int id, char symbol) {
        String text = message(id).text;
        needSymbol(symbol);
        return text.length() - text.replace(String.valueOf(symbol), "").length();
    }

    private String bitsOf(int id) {
        return bits(message(id).text, codes(now.weights));
    }

    int bitCount(int id) {
        return bitsOf(id).length();
    }

    int bitAt(int id, int index) {
        return charIn(bitsOf(id), index) - '0';
    }

    int checksum(int id) {
        return divided(bitsOf(id));
    }

    boolean areEqual(int id, int other) {
        return message(id).text.equals(message(other).text);
    }

    int commonLength(int id, int other) {
        String one = message(id).text;
        String two = message(other).text;
        int[][] common = new int[one.length() + 1][two.length() + 1];
        for (int i = one.length() - 1; i >= 0; i--) {
            for (int j = two.length() - 1; j >= 0; j--) {
                common[i][j] = one.charAt(i) == two.charAt(j) ? 1 + common[i + 1][j + 1]
                        : Math.max(common[i + 1][j], common[i][j + 1]);
            }
        }
        return common[0][0];
    }

    boolean hasFrame() {
        return now.frame != null;
    }

    int frameLength() {
        return now.frame == null ? 0 : now.frame.bits.length();
    }

    int frameBit(int index) {
        return charIn(now.frame == null ? "" : now.frame.bits, index) - '0';
    }

    int syndrome(int block) {
        return syndromeOf(blockAt(block));
    }

    int correctedBits(int block) {
        return Integer.parseInt(data(blockAt(block)), 2);
    }

    boolean isIntact() {
        if (now.frame == null) {
            throw new NoSuchElementException();
        }
        return decoded().equals(now.frame.text);
    }

    int receivedLength() {
        return now.received.length();
    }

    char receivedAt(int index) {
        return charIn(now.received, index);
    }

    int sentTotal() {
        return now.sent;
    }

    int receivedTotal() {
        return now.receivedFrames;
    }

    int correctedTotal() {
        return now.corrected;
    }

    int failedTotal() {
        return now.failed;
    }

    float failedShare() {
        if (now.receivedFrames == 0) {
            throw new ArithmeticException();
        }
        return (float) now.failed / now.receivedFrames;
    }

    int formatMessage(int id) {
        Message message = message(id);
        line = message.id + "!" + message.priority + ":" + message.text;
        return line.length();
    }

    int formatCode(char symbol) {
        needSymbol(symbol);
        line = symbol + "=" + codes(now.weights).get(symbol);
        return line.length();
    }

    char lineChar(int index) {
        return charIn(line, index);
    }

    // ---- Programs ----

    int append(char character) {
        if (character < ' ' || character > '~') {
            throw new IllegalArgumentException();
        }
        if (buffer.length() == 60) {
            throw new IllegalStateException();
        }
        buffer += character;
        return buffer.length();
    }

    /** A text starts a program if it is one, or if the search for one came to its end. */
    private static boolean startsProgram(String text) {
        Matcher matcher = PROGRAM.matcher(text);
        return matcher.matches() || matcher.hitEnd();
    }

    int run() {
        String program = buffer;
        buffer = "";
        if (!PROGRAM.matcher(program).matches()) {
            int good = 0;
            while (good < program.length() && startsProgram(program.substring(0, good + 1))) {
                good++;
            }
            errorPosition = good;
            throw new IllegalArgumentException();
        }
        String[] commands = program.split(";");
        State before = now;
        List<State> pastBefore = new ArrayList<>(past);
        Integer failed = null;
        for (int i = 0; i < commands.length && failed == null; i++) {
            failed = succeeds(commands[i]) ? null : i;
        }
        State after = now;
        now = before;
        past.clear();
        past.addAll(pastBefore);
        if (failed != null) {
            failedCommand = failed;
            throw new IllegalStateException();
        }
        return changed(after, commands.length);
    }

    private boolean succeeds(String command) {
        try {
            carryOut(command.split("[ =]"));
            return true;
        } catch (RuntimeException failed) {
            return false;
        }
    }

    private void carryOut(String[] words) {
        switch (words[0]) {
            case "weight" -> setWeight(words[1].charAt(0), Integer.parseInt(words[2]));
            case "draft" -> words[1].chars().forEach(symbol -> addSymbol((char) symbol));
            case "clear" -> clearDraft();
            case "post" -> post(Integer.parseInt(words[1]));
            case "drop" -> drop(Integer.parseInt(words[1]));
            case "hurry" -> setPriority(Integer.parseInt(words[1]), Integer.parseInt(words[2]));
            case "learn" -> learn(Integer.parseInt(words[1]));
            case "send" -> send();
            case "flip" -> flip(Integer.parseInt(words[1]));
            default -> receive();
        }
    }

    int errorPosition() {
        if (errorPosition == null) {
            throw new NoSuchElementException();
        }
        return errorPosition;
    }

    int failedCommand() {
        if (failedCommand == null) {
            throw new NoSuchElementException();
        }
        return failedCommand;
    }

    // ---- Undo ----

    int undoableCount() {
        return past.size();
    }

    int undo() {
        if (past.isEmpty()) {
            throw new IllegalStateException();
        }
        now = past.pop();
        return past.size();
    }

    int save() {
        saved = now;
        return now.queue.size();
    }

    int restore() {
        if (saved == null) {
            throw new IllegalStateException();
        }
        now = saved;
        past.clear();
        return now.queue.size();
    }
}
