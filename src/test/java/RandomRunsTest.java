import java.util.ArrayList;
import java.util.List;
import java.util.Random;

/** Long runs of calls, the same ones each time, answered by the program and by the model. */
public final class RandomRunsTest {
    private static final int RUNS = 1500;
    private static final int CALLS = 512;
    private static final int[] ODD = {Integer.MIN_VALUE, -8, -1, 9, 100, 1000, Integer.MAX_VALUE};
    private static final String[] COMMANDS = {"weight ", "draft ", "clear", "post ", "drop ", "hurry ", "learn ",
        "send", "flip ", "receive"};

    private final Random random;
    private final MessageCoder coder = new MessageCoder();
    private final Model model = new Model();
    private final List<String> told = new ArrayList<>();

    private RandomRunsTest(int run) {
        random = new Random(run);
    }

    public static void main(String[] args) {
        for (int run = 0; run < RUNS && Check.allWell(); run++) {
            new RandomRunsTest(run).go();
        }
        Check.end("RandomRunsTest");
    }

    private void go() {
        int style = random.nextInt(4);
        while (told.size() < CALLS && Check.allWell()) {
            int kind = random.nextInt(100);
            if (kind < 45) {
                change(style);
            } else if (kind < 50 + 10 * (style & 1)) {
                program();
            } else if (kind < 65) {
                back();
            } else {
                ask();
            }
        }
        if (!Check.allWell()) {
            System.out.println("the run: " + String.join("; ", told));
        }
    }

    /** After the last call that the document promises, the answers are free. */
    private void both(String call, Check.Call ofCoder, Check.Call ofModel) {
        if (told.size() == CALLS) {
            return;
        }
        told.add(call);
        Check.same(call + " as call " + told.size(), Check.outcome(ofCoder), Check.outcome(ofModel));
    }

    private char symbol() {
        return random.nextInt(40) == 0 ? "`iAz@ ".charAt(random.nextInt(6)) : (char) ('a' + random.nextInt(8));
    }

    private int number(int below) {
        return random.nextInt(40) == 0 ? ODD[random.nextInt(ODD.length)] : random.nextInt(below + 1);
    }

    private int id() {
        if (model.messageCount() > 0 && random.nextInt(8) != 0) {
            return model.messageAt(random.nextInt(model.messageCount()));
        }
        return number(12);
    }

    private void change(int style) {
        char symbol = symbol();
        int number = number(7);
        int id = id();
        switch (random.nextInt(style < 2 ? 12 : 20)) {
            case 0 -> {
                int weight = random.nextBoolean() ? number(6) : number(101);
                both("setWeight " + symbol + " " + weight, () -> coder.setWeight(symbol, weight),
                        () -> model.setWeight(symbol, weight));
            }
            case 1 -> {
                if (random.nextInt(3) == 0) {
                    both("clearDraft", coder::clearDraft, model::clearDraft);
                }
            }
            case 2, 3 -> both("post " + number, () -> coder.post(number), () -> model.post(number));
            case 4 -> {
                if (random.nextInt(2) == 0) {
                    both("drop " + id, () -> coder.drop(id), () -> model.drop(id));
                }
            }
            case 5 -> both("setPriority " + id + " " + number, () -> coder.setPriority(id, number),
                    () -> model.setPriority(id, number));
            case 6 -> both("learn " + id, () -> coder.learn(id), () -> model.learn(id));
            case 7 -> both("send", coder::send, model::send);
            case 8 -> flips();
            case 9 -> both("receive", coder::receive, model::receive);
            default -> {
                int times = 1 + random.nextInt(random.nextInt(4) == 0 ? 17 : 3);
                for (int i = 0; i < times; i++) {
                    char next = symbol();
                    both("addSymbol " + next, () -> coder.addSymbol(next), () -> model.addSymbol(next));
                }
            }
        }
    }

    private void flips() {
        int times = 1 + random.nextInt(8);
        for (int i = 0; i < times; i++) {
            int bit = number(Math.max(0, model.frameLength() - random.nextInt(2)));
            both("flip " + bit, () -> coder.flip(bit), () -> model.flip(bit));
        }
    }

    private String command() {
        String word = COMMANDS[random.nextInt(COMMANDS.length)];
        String number = String.valueOf(random.nextInt(8));
        return switch (word) {
            case "weight " -> word + (char) ('a' + random.nextInt(8)) + "=" + random.nextInt(random.nextInt(9) + 100);
            case "draft " -> word + "headbagcafehhhhhhh".substring(random.nextInt(9), 9 + random.nextInt(10));
            case "post " -> word + number;
            case "drop ", "learn " -> word + Math.abs(id() % 1000);
            case "hurry " -> word + Math.abs(id() % 1000) + " " + number;
            case "flip " -> word + random.nextInt(Math.max(1, model.frameLength()) + 1);
            default -> word;
        };
    }

    private void program() {
        StringBuilder text = new StringBuilder();
        int commands = 1 + random.nextInt(random.nextInt(6) == 0 ? 12 : 3);
        for (int i = 0; i < commands; i++) {
            text.append(i == 0 ? "" : ";").append(command());
        }
        for (int i = random.nextInt(5) - 2; i > 0 && text.length() > 0; i--) {
            spoil(text);
        }
        for (char character : text.toString().toCharArray()) {
            both("append " + character, () -> coder.append(character), () -> model.append(character));
            if (random.nextInt(400) == 0) {
                break;
            }
        }
        if (random.nextInt(12) != 0) {
            both("run", coder::run, model::run);
        }
        both("errorPosition", coder::errorPosition, model::errorPosition);
        both("failedCommand", coder::failedCommand, model::failedCommand);
    }

    private void spoil(StringBuilder text) {
        int place = random.nextInt(text.length());
        char other = "abih =;;019drwefpx~".charAt(random.nextInt(19));
        switch (random.nextInt(4)) {
            case 0 -> text.setLength(place);
            case 1 -> text.setCharAt(place, other);
            case 2 -> text.insert(place, other);
            default -> text.deleteCharAt(place);
        }
    }

    private void back() {
        switch (random.nextInt(8)) {
            case 0 -> both("save", coder::save, model::save);
            case 1 -> {
                if (random.nextInt(3) == 0) {
                    both("restore", coder::restore, model::restore);
                }
            }
            case 2, 3, 4 -> {
                for (int times = random.nextInt(random.nextInt(10) + 1); times >= 0; times--) {
                    both("undo", coder::undo, model::undo);
                }
            }
            default -> both("undoableCount", coder::undoableCount, model::undoableCount);
        }
    }

    private void ask() {
        switch (random.nextInt(4)) {
            case 0 -> askCodes();
            case 1 -> askMessages();
            case 2 -> askFrame();
            default -> askRest();
        }
    }

    private void askCodes() {
        char symbol = symbol();
        int rank = number(8);
        switch (random.nextInt(11)) {
            case 0 -> both("weightOf " + symbol, () -> coder.weightOf(symbol), () -> model.weightOf(symbol));
            case 1 -> both("totalWeight", coder::totalWeight, model::totalWeight);
            case 2 -> both("codeLength " + symbol, () -> coder.codeLength(symbol), () -> model.codeLength(symbol));
            case 3 -> both("codeValue " + symbol, () -> coder.codeValue(symbol), () -> model.codeValue(symbol));
            case 4 -> both("symbolByCode " + rank, () -> coder.symbolByCode(rank), () -> model.symbolByCode(rank));
            case 5 -> both("longestCode", coder::longestCode, model::longestCode);
            case 6 -> both("cost", coder::cost, model::cost);
            case 7 -> both("costByRanges", coder::costByRanges, model::cost);
            case 8 -> both("isComplete", coder::isComplete, () -> true);
            case 9 -> both("meanLength", coder::meanLength, model::meanLength);
            default -> both("draftBits", coder::draftBits, model::draftBits);
        }
    }

    private void askMessages() {
        int id = id();
        int other = id();
        int index = number(17);
        int bit = number(112);
        char symbol = symbol();
        switch (random.nextInt(14)) {
            case 0 -> both("messageCount", coder::messageCount, model::messageCount);
            case 1 -> both("messageAt " + index / 2, () -> coder.messageAt(index / 2), () -> model.messageAt(index / 2));
            case 2 -> both("priorityOf " + id, () -> coder.priorityOf(id), () -> model.priorityOf(id));
            case 3 -> both("lengthOf " + id, () -> coder.lengthOf(id), () -> model.lengthOf(id));
            case 4 -> both("symbolAt " + id + " " + index, () -> coder.symbolAt(id, index),
                    () -> model.symbolAt(id, index));
            case 5 -> both("countOf " + id + " " + symbol, () -> coder.countOf(id, symbol),
                    () -> model.countOf(id, symbol));
            case 6 -> both("bitCount " + id, () -> coder.bitCount(id), () -> model.bitCount(id));
            case 7 -> both("bitAt " + id + " " + index, () -> coder.bitAt(id, index), () -> model.bitAt(id, index));
            case 8 -> both("bitAt " + id + " " + bit, () -> coder.bitAt(id, bit), () -> model.bitAt(id, bit));
            case 9 -> both("checksum " + id, () -> coder.checksum(id), () -> model.checksum(id));
            case 10 -> both("checksumByTable " + id, () -> coder.checksumByTable(id), () -> model.checksum(id));
            case 11 -> both("areEqual " + id + " " + other, () -> coder.areEqual(id, other),
                    () -> model.areEqual(id, other));
            case 12 -> both("commonLength " + id + " " + other, () -> coder.commonLength(id, other),
                    () -> model.commonLength(id, other));
            default -> both("formatMessage " + id, () -> coder.formatMessage(id), () -> model.formatMessage(id));
        }
    }

    private void askFrame() {
        int bit = number(Math.max(0, model.frameLength()));
        int block = number(Math.max(0, model.frameLength() / 7));
        switch (random.nextInt(8)) {
            case 0 -> both("hasFrame", coder::hasFrame, model::hasFrame);
            case 1 -> both("frameLength", coder::frameLength, model::frameLength);
            case 2 -> both("frameBit " + bit, () -> coder.frameBit(bit), () -> model.frameBit(bit));
            case 3 -> both("syndrome " + block, () -> coder.syndrome(block), () -> model.syndrome(block));
            case 4 -> both("correctedBits " + block, () -> coder.correctedBits(block),
                    () -> model.correctedBits(block));
            case 5 -> both("correctedBitsByDistance " + block, () -> coder.correctedBitsByDistance(block),
                    () -> model.correctedBits(block));
            case 6 -> both("damagedBlocks", coder::damagedBlocks, model::damagedBlocks);
            default -> both("isIntact", coder::isIntact, model::isIntact);
        }
    }

    private void askRest() {
        int index = number(17);
        char symbol = symbol();
        switch (random.nextInt(12)) {
            case 0 -> both("draftLength", coder::draftLength, model::draftLength);
            case 1 -> both("draftAt " + index, () -> coder.draftAt(index), () -> model.draftAt(index));
            case 2 -> both("receivedLength", coder::receivedLength, model::receivedLength);
            case 3 -> both("receivedAt " + index, () -> coder.receivedAt(index), () -> model.receivedAt(index));
            case 4 -> both("sentTotal", coder::sentTotal, model::sentTotal);
            case 5 -> both("receivedTotal", coder::receivedTotal, model::receivedTotal);
            case 6 -> both("correctedTotal", coder::correctedTotal, model::correctedTotal);
            case 7 -> both("failedTotal", coder::failedTotal, model::failedTotal);
            case 8 -> both("failedShare", coder::failedShare, model::failedShare);
            case 9 -> both("isConsistent", coder::isConsistent, () -> true);
            case 10 -> both("formatCode " + symbol, () -> coder.formatCode(symbol), () -> model.formatCode(symbol));
            default -> both("lineChar " + index, () -> coder.lineChar(index), () -> model.lineChar(index));
        }
    }
}
