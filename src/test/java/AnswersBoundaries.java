import java.util.Random;
import java.util.TreeSet;

/** A test for each sentence of promises 12 to 55: codes, draft, messages, frame, totals, consistency and line. */
final class AnswersBoundaries extends Boundaries {
    private static final String NO_SYMBOL = "Throws `IllegalArgumentException` if there is no such symbol";
    private static final String ANY_SYMBOL = "- `symbol`: the symbol, 'a' to 'h'";
    private static final String GONE_ID = "Throws `NoSuchElementException` if no message in the queue has this id";
    private static final String EITHER_GONE = GONE_ID + ", for either";
    private static final String ANY_ID = "- `id`: the id of a message in the queue";
    private static final String ANY_OTHER = "- `other`: the id of a message in the queue";
    private static final String SAME_OTHER = "which may be the same";
    private static final String ANY_INDEX = "- `index`: the index, starting at 0";
    private static final String NO_INDEX = "Throws `IndexOutOfBoundsException` if there is no such index";
    private static final String ANY_RANK = "- `rank`: the rank, starting at 0";
    private static final String NO_RANK = "Throws `NoSuchElementException` if there is no such rank";
    private static final String ANY_BLOCK = "- `block`: the number of a block, starting at 0";
    private static final String NO_FRAME = "Throws `IndexOutOfBoundsException` if there is no frame";
    private static final String NO_BLOCK = "or it has no such block";
    private static final String BIT = "Returns 0 or 1.";

    static void all() {
        weightOf();
        totalWeight();
        codeLength();
        codeValue();
        symbolByCode();
        longestCode();
        cost();
        costByRanges();
        isComplete();
        meanLength();
        draftLength();
        draftAt();
        draftBits();
        messageCount();
        messageAt();
        priorityOf();
        lengthOf();
        symbolAt();
        countOf();
        bitCount();
        bitAt();
        checksum();
        checksumByTable();
        areEqual();
        commonLength();
        hasFrame();
        frameLength();
        frameBit();
        syndrome();
        correctedBits();
        correctedBitsByDistance();
        damagedBlocks();
        isIntact();
        receivedLength();
        receivedAt();
        sentTotal();
        receivedTotal();
        correctedTotal();
        failedTotal();
        failedShare();
        isConsistent();
        formatMessage();
        formatCode();
        lineChar();
    }

    // ---- Codes ----

    private static MessageCoder heaviest() {
        MessageCoder coder = new MessageCoder();
        weigh(coder, 99, 99, 99, 99, 99, 99, 99, 99);
        return coder;
    }

    private static void weightOf() {
        section("Promise 12");
        says("Returns the weight of a symbol.", () -> {
            MessageCoder coder = new MessageCoder();
            same("lowest", coder.weightOf('a'), 1);
            coder.setWeight('a', 99);
            same("highest", coder.weightOf('a'), 99);
            coder.undo();
            same("undone", coder.weightOf('a'), 1);
        });
        says(ANY_SYMBOL, () ->
            answersSymbols(withLongCodes(), MessageCoder::weightOf, 64, 32, 16, 8, 4, 2, 1, 1));
        says("Returns the weight.", () ->
            answersSymbols(heaviest(), MessageCoder::weightOf, 99, 99, 99, 99, 99, 99, 99, 99));
        says(NO_SYMBOL, () -> refusesSymbols(MessageCoder::weightOf));
    }

    private static void totalWeight() {
        section("Promise 13");
        says("Returns the sum of all weights. Returns the sum.", () -> {
            same("least", new MessageCoder().totalWeight(), 8);
            same("greatest", heaviest().totalWeight(), 792);
            for (char symbol : SYMBOLS.toCharArray()) {
                MessageCoder coder = new MessageCoder();
                coder.setWeight(symbol, 99);
                same("heavy " + symbol, coder.totalWeight(), 106);
            }
        });
    }

    private static void codeLength() {
        section("Promise 14");
        says("Returns the length of the code of a symbol.", () -> {
            MessageCoder coder = new MessageCoder();
            same("at first", coder.codeLength('h'), 3);
            coder.setWeight('h', 99);
            same("by the present weights", coder.codeLength('h'), 1);
            coder.undo();
            same("undone", coder.codeLength('h'), 3);
        });
        says(ANY_SYMBOL, () -> answersSymbols(withTies(), MessageCoder::codeLength, 5, 6, 6, 4, 3, 2, 2, 2));
        says("Returns the length, 1 to 7.", () ->
            answersSymbols(withLongCodes(), MessageCoder::codeLength, 1, 2, 3, 4, 5, 6, 7, 7));
        says(NO_SYMBOL, () -> refusesSymbols(MessageCoder::codeLength));
    }

    private static void codeValue() {
        section("Promise 15");
        says("Returns the code of a symbol as a binary number.", () -> {
            MessageCoder coder = new MessageCoder();
            same("at first", coder.codeValue('h'), 7);
            coder.setWeight('h', 99);
            same("by the present weights", coder.codeValue('h'), 0);
            coder.undo();
            same("undone", coder.codeValue('h'), 7);
        });
        says(ANY_SYMBOL, () -> answersSymbols(withTies(), MessageCoder::codeValue, 30, 62, 63, 14, 6, 0, 1, 2));
        says("Returns the number.", () ->
            answersSymbols(withLongCodes(), MessageCoder::codeValue, 0, 2, 6, 14, 30, 62, 126, 127));
        says(NO_SYMBOL, () -> refusesSymbols(MessageCoder::codeValue));
    }

    private static void symbolByCode() {
        section("Promise 16");
        says("Returns a symbol by its rank in the order of codes. ", () -> {
            same("all equal", orderOf(new MessageCoder()), "abcdefgh");
            same("ties", orderOf(withTies()), "fghedabc");
        });
        says(ANY_RANK, () -> {
            same("first", withTies().symbolByCode(0), 'f');
            same("last", withTies().symbolByCode(7), 'c');
        });
        says("Returns the symbol.", () -> {
            MessageCoder coder = new MessageCoder();
            for (char symbol : SYMBOLS.toCharArray()) {
                coder.setWeight(symbol, 99);
                same("heavy " + symbol, coder.symbolByCode(0), symbol);
                coder.undo();
            }
        });
        says(NO_RANK, () -> refusesBeyond(8, ELEMENT, rank -> withTies().symbolByCode(rank)));
    }

    private static void longestCode() {
        section("Promise 17");
        says("Returns the length of the longest code. Returns the length.", () -> {
            same("least", new MessageCoder().longestCode(), 3);
            same("four", withHeavyLast().longestCode(), 4);
            same("greatest", withLongCodes().longestCode(), 7);
        });
    }

    private static MessageCoder withHeavyLast() {
        MessageCoder coder = new MessageCoder();
        coder.setWeight('h', 99);
        return coder;
    }

    private static int sumOf(MessageCoder coder) {
        int sum = 0;
        for (char symbol : SYMBOLS.toCharArray()) {
            sum += coder.weightOf(symbol) * coder.codeLength(symbol);
        }
        return sum;
    }

    private static void cost() {
        section("Promise 18");
        says("Returns the sum, over all symbols, of the weight times the length of the code, by joining groups. "
                + "Returns the sum.", () -> {
            same("least", new MessageCoder().cost(), 24);
            same("greatest", heaviest().cost(), 2376);
            same("longest codes", withLongCodes().cost(), 254);
            Random random = new Random(18);
            for (int n = 0; n < 200; n++) {
                MessageCoder coder = randomlyWeighed(random);
                same("weights " + n, coder.cost(), sumOf(coder));
            }
        });
    }

    private static MessageCoder randomlyWeighed(Random random) {
        MessageCoder coder = new MessageCoder();
        int most = 1 + random.nextInt(random.nextBoolean() ? 4 : 99);
        for (char symbol : SYMBOLS.toCharArray()) {
            coder.setWeight(symbol, 1 + random.nextInt(most));
        }
        return coder;
    }

    private static void costByRanges() {
        section("Promise 19");
        says("Returns the same number as cost, as the least sum for the symbols in the order of their weights, by "
                + "dividing ranges of them into two ranges in the best way again and again. Returns the sum.", () -> {
            same("least", new MessageCoder().costByRanges(), 24);
            same("greatest", heaviest().costByRanges(), 2376);
            same("longest codes", withLongCodes().costByRanges(), 254);
            MessageCoder mixed = new MessageCoder();
            weigh(mixed, 1, 99, 1, 99, 1, 99, 1, 99);
            same("in the order of weights", mixed.costByRanges(), sumOf(mixed));
            weigh(mixed, 1, 1, 1, 1, 1, 1, 1, 1);
            same("after other weights", mixed.costByRanges(), 24);
            Random random = new Random(19);
            for (int n = 0; n < 200; n++) {
                MessageCoder coder = randomlyWeighed(random);
                same("weights " + n, coder.costByRanges(), sumOf(coder));
            }
        });
    }

    private static void isComplete() {
        section("Promise 20");
        says("Returns whether the sum, over all symbols, of 1 divided by 2 to the power of the length of the code is 1. "
                + "Returns true if it is.", () -> {
            same("equal codes", new MessageCoder().isComplete(), true);
            same("longest codes", withLongCodes().isComplete(), true);
            Random random = new Random(20);
            for (int n = 0; n < 200; n++) {
                MessageCoder coder = randomlyWeighed(random);
                double sum = 0;
                for (char symbol : SYMBOLS.toCharArray()) {
                    sum += 1.0 / (1 << coder.codeLength(symbol));
                }
                same("weights " + n, coder.isComplete(), sum == 1.0);
            }
        });
    }

    private static void meanLength() {
        section("Promise 21");
        says("Returns the mean length of the codes by weights: cost, converted to double, divided by the sum of all "
                + "weights. Returns the mean.", () -> {
            same("whole", new MessageCoder().meanLength(), 3.0);
            same("greatest weights", heaviest().meanLength(), 3.0);
            same("least mean", withHeavyLast().meanLength(), 126.0 / 106.0);
            same("longest codes", withLongCodes().meanLength(), 254.0 / 128.0);
            same("third parts", withTies().meanLength(), 921.0 / 402.0);
        });
    }

    // ---- Draft ----

    private static void draftLength() {
        section("Promise 22");
        says("Returns the length of the draft. Returns the number of symbols.", () -> {
            MessageCoder coder = new MessageCoder();
            for (int length = 0; length < 16; length++) {
                same("length", coder.draftLength(), length);
                coder.addSymbol('g');
            }
            same("full", coder.draftLength(), 16);
            coder.post(1);
            same("posted", coder.draftLength(), 0);
            coder.undo();
            same("undone", coder.draftLength(), 16);
        });
    }

    private static void draftAt() {
        section("Promise 23");
        says("Returns a symbol of the draft.", () -> {
            MessageCoder coder = new MessageCoder();
            draft(coder, "head");
            same("draft", draftOf(coder), "head");
            coder.clearDraft();
            draft(coder, "ba");
            same("new draft", draftOf(coder), "ba");
        });
        says(ANY_INDEX, () -> {
            MessageCoder coder = new MessageCoder();
            draft(coder, "gaaaaaaaaaaaaaah");
            same("first", coder.draftAt(0), 'g');
            same("last", coder.draftAt(15), 'h');
        });
        says("Returns the symbol.", () -> {
            MessageCoder coder = new MessageCoder();
            draft(coder, LONGEST);
            same("all", draftOf(coder), LONGEST);
        });
        says(NO_INDEX, () -> {
            MessageCoder coder = new MessageCoder();
            refusesBeyond(0, INDEX, coder::draftAt);
            draft(coder, LONGEST);
            refusesBeyond(16, INDEX, coder::draftAt);
            coder.clearDraft();
            refusesBeyond(0, INDEX, coder::draftAt);
            coder.addSymbol('a');
            refusesBeyond(1, INDEX, coder::draftAt);
        });
    }

    private static void draftBits() {
        section("Promise 24");
        says("Returns the number of bits that the draft would have as a message. Returns the number.", () -> {
            MessageCoder coder = withLongCodes();
            same("empty", coder.draftBits(), 0);
            coder.addSymbol('a');
            same("one bit", coder.draftBits(), 1);
            coder.clearDraft();
            draft(coder, "hhhhhhhhgggggggg");
            same("most", coder.draftBits(), 112);
            weigh(coder, 1, 1, 1, 1, 1, 1, 1, 1);
            same("by the present weights", coder.draftBits(), 48);
            coder.post(1);
            same("as a message", coder.bitCount(0), 48);
            same("posted", coder.draftBits(), 0);
        });
    }

    // ---- Messages ----

    private static void messageCount() {
        section("Promise 25");
        says("Returns the number of messages in the queue. Returns the number.", () -> {
            MessageCoder coder = new MessageCoder();
            same("least", coder.messageCount(), 0);
            for (int n = 1; n <= 8; n++) {
                post(coder, "a", 1);
                same("posted", coder.messageCount(), n);
            }
            coder.send();
            coder.drop(7);
            same("sent and dropped", coder.messageCount(), 6);
            coder.undo();
            same("undone", coder.messageCount(), 7);
        });
    }

    private static void messageAt() {
        section("Promise 26");
        says("Returns a message by its rank in the order of the queue.", () -> {
            same("scattered", queueOf(scattered()), "4 3 8 7 1 6 5");
            same("equal priorities", queueOf(withFullQueue()), "0 1 2 3 4 5 6 7");
        });
        says(ANY_RANK, () -> {
            MessageCoder coder = withFullQueue();
            coder.setPriority(5, 5);
            coder.setPriority(2, 1);
            same("first", coder.messageAt(0), 5);
            same("last", coder.messageAt(7), 2);
        });
        says("Returns the id.", () -> same("the only one", withMessage("a").messageAt(0), 0));
        says(NO_RANK, () -> {
            refusesBeyond(0, ELEMENT, rank -> new MessageCoder().messageAt(rank));
            MessageCoder coder = withFullQueue();
            refusesBeyond(8, ELEMENT, coder::messageAt);
            coder.send();
            refusesBeyond(7, ELEMENT, coder::messageAt);
            for (int id = 1; id < 8; id++) {
                coder.drop(id);
            }
            refusesBeyond(0, ELEMENT, coder::messageAt);
        });
    }

    private static void priorityOf() {
        section("Promise 27");
        says("Returns the priority of a message.", () -> {
            MessageCoder coder = new MessageCoder();
            post(coder, "a", 1);
            post(coder, "a", 5);
            same("lowest", coder.priorityOf(0), 1);
            same("highest", coder.priorityOf(1), 5);
        });
        says(ANY_ID, () -> answersQueued(MessageCoder::priorityOf, id -> 1 + id % 5));
        says("Returns the priority.", () -> {
            MessageCoder coder = withMessage("a");
            coder.setPriority(0, 5);
            same("set", coder.priorityOf(0), 5);
            coder.undo();
            same("undone", coder.priorityOf(0), 3);
        });
        says(GONE_ID, () -> refusesGone(MessageCoder::priorityOf));
    }

    private static void lengthOf() {
        section("Promise 28");
        says("Returns the number of symbols of a message.", () -> {
            same("least", withMessage("a").lengthOf(0), 1);
            same("greatest", withMessage(LONGEST).lengthOf(0), 16);
        });
        says(ANY_ID, () -> answersQueued(MessageCoder::lengthOf, id -> id + 1));
        says("Returns the number.", () -> {
            MessageCoder coder = withMessage(LONGEST);
            coder.drop(0);
            post(coder, "a", 1);
            same("after a longer one", coder.lengthOf(1), 1);
        });
        says(GONE_ID, () -> refusesGone(MessageCoder::lengthOf));
    }

    private static void symbolAt() {
        section("Promise 29");
        says("Returns a symbol of a message.", () -> same("all", textOf(withMessage(LONGEST), 0), LONGEST));
        says(ANY_ID, () -> answersQueued((coder, id) -> coder.symbolAt(id, id), id -> LONGEST.charAt(id)));
        says(ANY_INDEX, () -> {
            MessageCoder coder = withMessage("gaaaaaaaaaaaaaah");
            same("first", coder.symbolAt(0, 0), 'g');
            same("last", coder.symbolAt(0, 15), 'h');
        });
        says("Returns the symbol.", () -> {
            MessageCoder coder = withMessage("abc");
            draft(coder, "gh");
            same("not of the draft", textOf(coder, 0), "abc");
        });
        says(GONE_ID, () -> {
            refusesGone((coder, id) -> coder.symbolAt(id, 0));
            refusesGone((coder, id) -> coder.symbolAt(id, -1));
        });
        says(NO_INDEX, () -> {
            refusesBeyond(1, INDEX, index -> withMessage("a").symbolAt(0, index));
            refusesBeyond(16, INDEX, index -> withMessage(LONGEST).symbolAt(0, index));
            MessageCoder coder = withMessage(LONGEST);
            coder.drop(0);
            post(coder, "ab", 1);
            refusesBeyond(2, INDEX, index -> coder.symbolAt(1, index));
        });
    }

    private static void countOf() {
        section("Promise 30");
        says("Returns how often a message has a symbol.", () -> {
            MessageCoder coder = withMessage("hhhhhhhhhhhhhhhh");
            same("never", coder.countOf(0, 'a'), 0);
            same("always", coder.countOf(0, 'h'), 16);
        });
        says(ANY_ID, () -> answersQueued((coder, id) -> coder.countOf(id, 'a'), id -> id == 8 ? 2 : 1));
        says(ANY_SYMBOL, () -> answersSymbols(withMessage("hbhcbhfb"), (coder, symbol) -> coder.countOf(0, symbol),
                0, 3, 1, 0, 0, 1, 0, 3));
        says("Returns the number.", () -> {
            MessageCoder coder = withMessage("aaaa");
            coder.drop(0);
            post(coder, "a", 1);
            same("after a longer one", coder.countOf(1, 'a'), 1);
        });
        says(GONE_ID, () -> {
            refusesGone((coder, id) -> coder.countOf(id, 'a'));
            refusesGone((coder, id) -> coder.countOf(id, 'i'));
        });
        says(NO_SYMBOL, () -> refusesSymbols((coder, symbol) -> coder.countOf(1, symbol)));
    }

    private static MessageCoder withLongMessage(String text) {
        MessageCoder coder = withLongCodes();
        post(coder, text, 1);
        return coder;
    }

    private static void bitCount() {
        section("Promise 31");
        says("Returns the number of bits of a message.", () -> {
            same("least", withLongMessage("a").bitCount(0), 1);
            same("greatest", withLongMessage("hhhhhhhhhhhhhhhh").bitCount(0), 112);
        });
        says(ANY_ID, () -> answersQueued(MessageCoder::bitCount, id -> 3 * (id + 1)));
        says("Returns the number.", () -> {
            MessageCoder coder = withMessage("ah");
            coder.setWeight('h', 99);
            same("by the present weights", coder.bitCount(0), 5);
            coder.undo();
            same("undone", coder.bitCount(0), 6);
        });
        says(GONE_ID, () -> refusesGone(MessageCoder::bitCount));
    }

    private static void bitAt() {
        section("Promise 32");
        says("Returns a bit of a message.", () -> same("bits", bitsOf(withLongMessage("hbgc"), 0), "1111111101111110110"));
        says(ANY_ID, () -> answersQueued((coder, id) -> coder.bitAt(id, 3 * id + 2), id -> id % 2));
        says(ANY_INDEX, () -> {
            MessageCoder coder = withLongMessage("aahg");
            same("first", coder.bitAt(0, 0), 0);
            same("third", coder.bitAt(0, 2), 1);
            same("last", coder.bitAt(0, 15), 0);
            same("last of the longest", withLongMessage("hhhhhhhhhhhhhhhh").bitAt(0, 111), 1);
        });
        says(BIT, () -> {
            same("zeros", bitsOf(withMessage("aaaa"), 0), "000000000000");
            same("ones", bitsOf(withMessage("hhhh"), 0), "111111111111");
        });
        says(GONE_ID, () -> {
            refusesGone((coder, id) -> coder.bitAt(id, 0));
            refusesGone((coder, id) -> coder.bitAt(id, 999));
        });
        says(NO_INDEX, () -> {
            refusesBeyond(1, INDEX, index -> withLongMessage("a").bitAt(0, index));
            refusesBeyond(112, INDEX, index -> withLongMessage("hhhhhhhhhhhhhhhh").bitAt(0, index));
            MessageCoder coder = withMessage("ah");
            coder.setWeight('h', 99);
            refusesBeyond(5, INDEX, index -> coder.bitAt(0, index));
        });
    }

    /** The checksums of the scattered messages, whose symbols have the codes 000 to 111. */
    private static int scatteredChecksum(int id) {
        int rest = 0;
        for (int i = 0; i <= id; i++) {
            for (int bit = 2; bit >= 0; bit--) {
                rest = rest << 1 ^ (i % 8 >> bit & 1) << 4;
                rest = rest >= 16 && (rest & 16) != 0 ? (rest ^ 19) & 15 : rest & 15;
            }
        }
        return rest;
    }

    private static void checksum() {
        section("Promise 33");
        says("Returns the checksum of a message, bit by bit.", () -> {
            same("000", withMessage("a").checksum(0), 0);
            same("001", withMessage("b").checksum(0), 3);
            same("111", withMessage("h").checksum(0), 9);
            same("0", withLongMessage("a").checksum(0), 0);
            same("10", withLongMessage("b").checksum(0), 6);
            same("1110", withLongMessage("d").checksum(0), 1);
            same("11110", withLongMessage("e").checksum(0), 4);
        });
        says(ANY_ID, () -> answersQueued(MessageCoder::checksum, AnswersBoundaries::scatteredChecksum));
        says("Returns the checksum.", () -> {
            MessageCoder coder = withMessage("h");
            coder.setWeight('h', 99);
            same("by the present weights", coder.checksum(0), 0);
            coder.undo();
            same("undone", coder.checksum(0), 9);
        });
        says(GONE_ID, () -> refusesGone(MessageCoder::checksum));
    }

    private static void checksumByTable() {
        section("Promise 34");
        says("Returns the same number as checksum, by taking 4 bits at a time with a table of remainders, after as many "
                + "leading zeros as are needed.", () -> {
            same("three leading zeros", withLongMessage("a").checksumByTable(0), 0);
            same("two leading zeros", withLongMessage("b").checksumByTable(0), 6);
            same("one leading zero", withMessage("h").checksumByTable(0), 9);
            same("none", withLongMessage("d").checksumByTable(0), 1);
            same("three again", withLongMessage("e").checksumByTable(0), 4);
            for (char first : SYMBOLS.toCharArray()) {
                MessageCoder coder = new MessageCoder();
                for (char second : SYMBOLS.toCharArray()) {
                    int id = post(coder, "" + first + second, 1);
                    same("of " + first + second, coder.checksumByTable(id), coder.checksum(id));
                }
            }
            same("112 bits", withLongMessage("hghghghghghghghg").checksumByTable(0),
                    withLongMessage("hghghghghghghghg").checksum(0));
        });
        says(ANY_ID, () -> answersQueued(MessageCoder::checksumByTable, AnswersBoundaries::scatteredChecksum));
        says("Returns the checksum.", () -> {
            TreeSet<Integer> found = new TreeSet<>();
            for (int data = 0; data < 16; data++) {
                MessageCoder coder = withMessage("" + SYMBOLS.charAt(data >> 1) + SYMBOLS.charAt((data & 1) << 2));
                found.add(coder.checksumByTable(0));
            }
            same("0 to 15", found.size() + found.first() + found.last(), 31);
        });
        says(GONE_ID, () -> refusesGone(MessageCoder::checksumByTable));
    }

    private static MessageCoder withTexts(String... texts) {
        MessageCoder coder = new MessageCoder();
        for (int id = 0; id < texts.length; id++) {
            post(coder, texts[id], 1 + id % 5);
        }
        return coder;
    }

    private static void areEqual() {
        section("Promise 35");
        says("Returns whether two messages have the same symbols.", () -> {
            same("one symbol", withTexts("a", "a").areEqual(0, 1), true);
            same("another symbol", withTexts("a", "b").areEqual(0, 1), false);
            same("sixteen", withTexts(LONGEST, LONGEST).areEqual(0, 1), true);
            same("the last differs", withTexts(LONGEST, "abcdefghabcdefgg").areEqual(0, 1), false);
            same("the first differs", withTexts(LONGEST, "bbcdefghabcdefgh").areEqual(0, 1), false);
            same("one less", withTexts(LONGEST, "abcdefghabcdefg").areEqual(0, 1), false);
            same("one more", withTexts("abcdefghabcdefg", LONGEST).areEqual(0, 1), false);
            same("another order", withTexts("ab", "ba").areEqual(0, 1), false);
        });
        says(ANY_ID, () -> answersQueued((coder, id) -> coder.areEqual(id, 4), id -> id == 4));
        says(ANY_OTHER, () -> answersQueued((coder, id) -> coder.areEqual(8, id), id -> id == 8));
        says(SAME_OTHER, () -> answersQueued((coder, id) -> coder.areEqual(id, id), id -> true));
        says("Returns true if they have.", () -> {
            MessageCoder coder = withTexts("ab", "ab", "abc");
            coder.setPriority(1, 5);
            same("other priority", coder.areEqual(0, 1), true);
            same("longer", coder.areEqual(1, 2), false);
        });
        says(EITHER_GONE, () -> {
            refusesGone((coder, id) -> coder.areEqual(id, 1));
            refusesGone((coder, id) -> coder.areEqual(1, id));
            refusesGone((coder, id) -> coder.areEqual(id, id));
        });
    }

    private static void commonLength() {
        section("Promise 36");
        says("Returns the greatest number of symbols that two messages have in common in the same order", () -> {
            same("none", withTexts("a", "b").commonLength(0, 1), 0);
            same("none of sixteen", withTexts("aaaaaaaaaaaaaaaa", "bbbbbbbbbbbbbbbb").commonLength(0, 1), 0);
            same("one", withTexts("a", "a").commonLength(0, 1), 1);
            same("all sixteen", withTexts(LONGEST, LONGEST).commonLength(0, 1), 16);
            same("another order", withTexts("abcdefgh", "hgfedcba").commonLength(0, 1), 1);
            same("a part", withTexts(LONGEST, "efgh").commonLength(0, 1), 4);
        });
        says("though not always next to each other.", () -> {
            same("ends", withTexts("acccccccccccccch", "ah").commonLength(0, 1), 2);
            same("each second", withTexts(LONGEST, "acegaceg").commonLength(0, 1), 8);
            same("the greatest, not the first", withTexts("abcd", "dabc").commonLength(0, 1), 3);
            same("both leave some out", withTexts("abcbdab", "bdcaba").commonLength(0, 1), 4);
        });
        says(ANY_ID, () -> answersQueued((coder, id) -> coder.commonLength(id, 4), id -> Math.min(id, 4) + 1));
        says(ANY_OTHER, () -> answersQueued((coder, id) -> coder.commonLength(8, id), id -> id + 1));
        says(SAME_OTHER, () -> answersQueued((coder, id) -> coder.commonLength(id, id), id -> id + 1));
        says("Returns the number of symbols.", () -> {
            MessageCoder coder = withTexts(LONGEST, LONGEST, "h", "ag");
            same("long", coder.commonLength(0, 1), 16);
            same("short after long", coder.commonLength(2, 3), 0);
            same("short with long", coder.commonLength(3, 0), 2);
        });
        says(EITHER_GONE, () -> {
            refusesGone((coder, id) -> coder.commonLength(id, 1));
            refusesGone((coder, id) -> coder.commonLength(1, id));
            refusesGone((coder, id) -> coder.commonLength(id, id));
        });
    }

    // ---- Frame ----

    private static void hasFrame() {
        section("Promise 37");
        says("Returns whether there is a frame. Returns true if there is one.", () -> {
            MessageCoder coder = withMessage("a");
            same("not sent", coder.hasFrame(), false);
            coder.send();
            same("sent", coder.hasFrame(), true);
            coder.undo();
            same("undone", coder.hasFrame(), false);
            coder.send();
            coder.receive();
            same("received", coder.hasFrame(), false);
            coder.undo();
            same("undone again", coder.hasFrame(), true);
        });
    }

    private static void frameLength() {
        section("Promise 38");
        says("Returns the number of bits in the frame.", () -> {
            same("least", withShortestFrame().frameLength(), 7);
            same("greatest", withLongestFrame().frameLength(), 196);
            MessageCoder coder = withFrame("hhh");
            coder.setWeight('h', 99);
            same("by the weights of the sending", coder.frameLength(), 21);
        });
        says("Returns the number, 0 if there is no frame.", () -> {
            MessageCoder coder = withMessage("a");
            same("not sent", coder.frameLength(), 0);
            coder.send();
            coder.receive();
            same("received", coder.frameLength(), 0);
        });
    }

    private static void frameBit() {
        section("Promise 39");
        says("Returns a bit of the frame.", () -> same("bits", frameOf(withFrame("hh")), "11111110111100"));
        says(ANY_INDEX, () -> {
            MessageCoder coder = withFrame("hh");
            same("first", coder.frameBit(0), 1);
            same("last", coder.frameBit(13), 0);
            coder.flip(0);
            coder.flip(13);
            same("first, flipped", coder.frameBit(0), 0);
            same("last, flipped", coder.frameBit(13), 1);
        });
        says(BIT, () -> {
            MessageCoder coder = withShortestFrame();
            same("zeros", frameOf(coder), "0000000");
            flipAll(coder, 0, 7);
            same("ones", frameOf(coder), "1111111");
        });
        says(NO_FRAME, () -> {
            MessageCoder coder = withMessage("a");
            refusesBeyond(0, INDEX, coder::frameBit);
            coder.send();
            coder.receive();
            refusesBeyond(0, INDEX, coder::frameBit);
        });
        says("or no such index", () -> {
            refusesBeyond(7, INDEX, withShortestFrame()::frameBit);
            refusesBeyond(196, INDEX, withLongestFrame()::frameBit);
            MessageCoder coder = withFrame(LONGEST);
            post(coder, "a", 1);
            coder.send();
            refusesBeyond(7, INDEX, coder::frameBit);
        });
    }

    private static void checkBlocks(java.util.function.BiFunction<MessageCoder, Integer, Object> call) {
        says(NO_FRAME, () -> {
            MessageCoder coder = withMessage("a");
            refusesBeyond(0, INDEX, block -> call.apply(coder, block));
            coder.send();
            coder.receive();
            refusesBeyond(0, INDEX, block -> call.apply(coder, block));
        });
        says(NO_BLOCK, () -> {
            refusesBeyond(1, INDEX, block -> call.apply(withShortestFrame(), block));
            refusesBeyond(28, INDEX, block -> call.apply(withLongestFrame(), block));
            MessageCoder coder = withFrame(LONGEST);
            post(coder, "a", 1);
            coder.send();
            refusesBeyond(1, INDEX, block -> call.apply(coder, block));
        });
    }

    private static void syndrome() {
        section("Promise 40");
        says("Returns the syndrome of a block of the frame.", () -> {
            MessageCoder coder = withFrame("hh");
            coder.flip(9);
            same("whole", coder.syndrome(0), 0);
            same("damaged", coder.syndrome(1), 3);
        });
        says(ANY_BLOCK, () -> {
            MessageCoder coder = withLongestFrame();
            coder.flip(0);
            coder.flip(195);
            same("first", coder.syndrome(0), 1);
            same("last", coder.syndrome(27), 7);
            same("between", coder.syndrome(1) + coder.syndrome(26), 0);
        });
        says("Returns the syndrome, 0 to 7.", () -> {
            MessageCoder coder = withShortestFrame();
            same("least", coder.syndrome(0), 0);
            for (int bit = 0; bit < 7; bit++) {
                coder.flip(bit);
                same("place", coder.syndrome(0), bit + 1);
                coder.flip(bit);
            }
        });
        checkBlocks(MessageCoder::syndrome);
    }

    private static void correctedBits() {
        section("Promise 41");
        says("Returns the bits d1 to d4 of a block, as it would be corrected, as a binary number.", () -> {
            MessageCoder coder = withFrame("cd");
            same("0100", coder.correctedBits(0), 4);
            flipAll(coder, 0, 2);
            same("third bit flipped too", coder.correctedBits(0), 12);
            same("but not in the frame", frameOf(coder).charAt(2), '0');
            same("still damaged", coder.syndrome(0), 3);
        });
        checkCorrected(MessageCoder::correctedBits, "Returns the number, 0 to 15.");
    }

    private static void correctedBitsByDistance() {
        section("Promise 42");
        says("Returns the same number as correctedBits, by comparing the block with the blocks of all 16 numbers and "
                + "taking the one that differs in the fewest bits.", () -> {
            for (int mask = 0; mask < 128; mask++) {
                MessageCoder coder = withShortestFrame();
                for (int bit = 0; bit < 7; bit++) {
                    if ((mask >> bit & 1) == 1) {
                        coder.flip(bit);
                    }
                }
                same("block " + frameOf(coder), coder.correctedBitsByDistance(0), coder.correctedBits(0));
            }
        });
        checkCorrected(MessageCoder::correctedBitsByDistance, "Returns the number.");
    }

    private static void checkCorrected(java.util.function.BiFunction<MessageCoder, Integer, Object> call, String range) {
        says(ANY_BLOCK, () -> {
            MessageCoder coder = withLongestFrame();
            coder.flip(2);
            coder.flip(195);
            same("first", call.apply(coder, 0), 15);
            same("last", call.apply(coder, 27), 14);
        });
        says(range, () -> {
            for (int data = 0; data < 16; data++) {
                MessageCoder coder = withFrame("" + SYMBOLS.charAt(data >> 1) + SYMBOLS.charAt((data & 1) << 2));
                same("whole", call.apply(coder, 0), data);
                for (int bit = 0; bit < 7; bit++) {
                    coder.flip(bit);
                    same("flipped " + bit, call.apply(coder, 0), data);
                    coder.flip(bit);
                }
            }
        });
        checkBlocks(call);
    }

    private static void damagedBlocks() {
        section("Promise 43");
        says("Returns the number of damaged blocks of the frame.", () -> {
            MessageCoder coder = withLongestFrame();
            same("least", coder.damagedBlocks(), 0);
            for (int block = 0; block < 28; block++) {
                coder.flip(block * 7 + block % 7);
            }
            same("greatest", coder.damagedBlocks(), 28);
            coder.undo();
            same("undone", coder.damagedBlocks(), 27);
        });
        says("Returns the number, 0 if there is no frame.", () -> {
            MessageCoder coder = withMessage("a");
            same("not sent", coder.damagedBlocks(), 0);
            coder.send();
            coder.flip(0);
            coder.receive();
            same("received", coder.damagedBlocks(), 0);
        });
    }

    private static void isIntact() {
        section("Promise 44");
        says("Returns whether the frame would be received without errors now", () -> {
            MessageCoder coder = withLongestFrame();
            same("whole", coder.isIntact(), true);
            for (int block = 0; block < 28; block++) {
                coder.flip(block * 7);
            }
            same("a flip in each block", coder.isIntact(), true);
            coder.flip(195);
            same("two flips in the last block", coder.isIntact(), false);
            coder.undo();
            same("undone", coder.isIntact(), true);
            same("as it was", coder.receive() + coder.failedTotal(), 28);
        });
        says("whether the received text would be the symbols of the message. Returns true if it would.", () -> {
            MessageCoder shorter = withShortestFrame();
            flipAll(shorter, 0, 7);
            same("no symbol at all", shorter.isIntact(), false);
            same("though not damaged", shorter.damagedBlocks(), 0);
            same("nothing is received by asking", shorter.receivedLength() + shorter.receivedTotal(), 0);
            MessageCoder zeros = withFrame("h");
            zeros.flip(0);
            zeros.flip(1);
            zeros.flip(3);
            zeros.flip(6);
            same("the zero behind the bits", zeros.correctedBits(0), 15);
            same("does not matter", zeros.isIntact(), true);
            MessageCoder codes = withFrame("hg");
            weigh(codes, 1, 2, 3, 4, 5, 6, 7, 8);
            same("by the codes of the sending", codes.isIntact(), true);
        });
        says("Throws `NoSuchElementException` if there is no frame", () -> {
            MessageCoder coder = withMessage("a");
            fails("not sent", ELEMENT, coder::isIntact);
            coder.send();
            coder.receive();
            fails("received", ELEMENT, coder::isIntact);
        });
    }

    // ---- Received text ----

    private static MessageCoder withReceived(String text) {
        MessageCoder coder = withFrame(text);
        coder.receive();
        return coder;
    }

    private static void receivedLength() {
        section("Promise 45");
        says("Returns the length of the received text.", () -> {
            same("shortest", withReceived("a").receivedLength(), 1);
            same("longest", withReceived(LONGEST).receivedLength(), 16);
        });
        says("Returns the number of symbols, 0 if nothing was received.", () -> {
            MessageCoder coder = withFrame("ab");
            same("nothing", coder.receivedLength(), 0);
            coder.receive();
            same("two", coder.receivedLength(), 2);
            coder.undo();
            same("undone", coder.receivedLength(), 0);
            MessageCoder empty = withShortestFrame();
            flipAll(empty, 0, 7);
            empty.receive();
            same("empty text", empty.receivedLength(), 0);
        });
    }

    private static void receivedAt() {
        section("Promise 46");
        says("Returns a symbol of the received text.", () ->
            same("all", receivedOf(withReceived(LONGEST)), LONGEST));
        says(ANY_INDEX, () -> {
            MessageCoder coder = withReceived("gaaaaaaaaaaaaaah");
            same("first", coder.receivedAt(0), 'g');
            same("last", coder.receivedAt(15), 'h');
        });
        says("Returns the symbol.", () -> same("the only one", withReceived("h").receivedAt(0), 'h'));
        says(NO_INDEX, () -> {
            refusesBeyond(0, INDEX, withFrame("ab")::receivedAt);
            refusesBeyond(1, INDEX, withReceived("a")::receivedAt);
            refusesBeyond(16, INDEX, withReceived(LONGEST)::receivedAt);
            MessageCoder coder = withReceived(LONGEST);
            post(coder, "ab", 1);
            coder.send();
            coder.receive();
            refusesBeyond(2, INDEX, coder::receivedAt);
        });
    }

    // ---- Totals ----

    /** Sends three messages and receives two of them, of which the second fails; two blocks are damaged in each. */
    private static MessageCoder withTotals() {
        MessageCoder coder = withFrame("hh");
        coder.flip(0);
        coder.flip(7);
        coder.receive();
        post(coder, "gg", 1);
        post(coder, "hh", 1);
        coder.send();
        coder.send();
        flipAll(coder, 0, 2);
        coder.flip(13);
        coder.receive();
        return coder;
    }

    private static void sentTotal() {
        section("Promise 47");
        says("Returns the number of messages that have been sent so far. Returns the number.", () -> {
            MessageCoder coder = new MessageCoder();
            same("none", coder.sentTotal(), 0);
            fails("refused", ELEMENT, coder::send);
            same("still none", coder.sentTotal(), 0);
            same("three, one of them never received", withTotals().sentTotal(), 3);
            MessageCoder undone = withFrame("a");
            undone.undo();
            same("undone", undone.sentTotal(), 0);
        });
    }

    private static void receivedTotal() {
        section("Promise 48");
        says("Returns the number of frames that have been received so far. Returns the number.", () -> {
            MessageCoder coder = withFrame("a");
            same("none", coder.receivedTotal(), 0);
            coder.receive();
            fails("refused", ELEMENT, coder::receive);
            same("one", coder.receivedTotal(), 1);
            coder.undo();
            same("undone", coder.receivedTotal(), 0);
            same("two, one of them with errors", withTotals().receivedTotal(), 2);
        });
    }

    private static void correctedTotal() {
        section("Promise 49");
        says("Returns the number of blocks that were damaged in all frames that have been received so far. Returns the "
                + "number.", () -> {
            MessageCoder coder = withFrame("hh");
            coder.flip(0);
            coder.flip(7);
            same("not received yet", coder.correctedTotal(), 0);
            coder.receive();
            same("two", coder.correctedTotal(), 2);
            coder.undo();
            same("undone", coder.correctedTotal(), 0);
            same("of two frames", withTotals().correctedTotal(), 4);
            same("none damaged", withReceived("a").correctedTotal(), 0);
        });
    }

    private static void failedTotal() {
        section("Promise 50");
        says("Returns the number of frames that have been received with errors so far. Returns the number.", () -> {
            MessageCoder coder = withFrame("hh");
            flipAll(coder, 0, 2);
            same("not received yet", coder.failedTotal(), 0);
            coder.receive();
            same("one", coder.failedTotal(), 1);
            coder.undo();
            same("undone", coder.failedTotal(), 0);
            same("one of two", withTotals().failedTotal(), 1);
            same("without errors", withReceived("a").failedTotal(), 0);
        });
    }

    private static void failedShare() {
        section("Promise 51");
        says("Returns the number of frames that have been received with errors, converted to float, divided by the "
                + "number of frames that have been received. Returns the share.", () -> {
            same("none", withReceived("a").failedShare(), 0.0f);
            MessageCoder coder = withTotals();
            same("half", coder.failedShare(), 0.5f);
            post(coder, "a", 1);
            coder.send();
            coder.receive();
            same("a third", coder.failedShare(), 1.0f / 3.0f);
            MessageCoder all = withFrame("hh");
            flipAll(all, 0, 2);
            all.receive();
            same("all", all.failedShare(), 1.0f);
        });
        says("Throws `ArithmeticException` if no frame has been received", () -> {
            MessageCoder coder = new MessageCoder();
            fails("new", ArithmeticException.class, coder::failedShare);
            post(coder, "a", 1);
            coder.send();
            fails("sent only", ArithmeticException.class, coder::failedShare);
            coder.receive();
            same("received", coder.failedShare(), 0.0f);
            coder.undo();
            fails("undone", ArithmeticException.class, coder::failedShare);
        });
    }

    private static void isConsistent() {
        section("Promise 52");
        says("Checks the coder: cost and costByRanges agree, isComplete is true, checksum and checksumByTable agree for "
                + "all messages, and correctedBits and correctedBitsByDistance agree for all blocks of the frame. Returns "
                + "true if all these checks succeed.", () -> {
            same("no message, no frame", new MessageCoder().isConsistent(), true);
            MessageCoder full = withLongestFrame();
            for (int block = 0; block < 28; block++) {
                full.flip(block * 7 + block % 7);
                full.flip(block * 7 + 3);
            }
            for (String text : new String[] {"a", "b", "c", "d", "e", "h", "hhhhhhhhhhhhhhhh", LONGEST}) {
                post(full, text, 2);
            }
            same("full queue, longest frame", full.isConsistent(), true);
            same("nothing changed", full.messageCount() * 1000 + full.frameLength(), 8196);
            Random random = new Random(52);
            for (int n = 0; n < 100; n++) {
                MessageCoder coder = randomlyWeighed(random);
                post(coder, LONGEST, 1);
                post(coder, "cab", 2);
                coder.send();
                coder.flip(random.nextInt(coder.frameLength()));
                same("weights " + n, coder.isConsistent(), true);
            }
        });
    }

    // ---- Line ----

    private static void formatMessage() {
        section("Promise 53");
        says("Formats a message into the line, replacing the previous line: its id, \"!\", its priority, \":\" and its "
                + "symbols.", () -> {
            MessageCoder coder = withTexts(LONGEST, "h");
            same("long", lineOf(coder, coder.formatMessage(0)), "0!1:" + LONGEST);
            same("short after long", lineOf(coder, coder.formatMessage(1)), "1!2:h");
            coder.formatCode('a');
            same("after a code", lineOf(coder, coder.formatMessage(1)), "1!2:h");
            coder.setPriority(1, 5);
            same("not formatted anew", lineOf(coder, 5), "1!2:h");
            same("present priority", lineOf(coder, coder.formatMessage(1)), "1!5:h");
        });
        says("An example is \"3!5:cabbage\".", () -> {
            MessageCoder coder = withTexts("a", "a", "a");
            post(coder, "cabbage", 5);
            same("line", lineOf(coder, coder.formatMessage(3)), "3!5:cabbage");
        });
        says(ANY_ID, () -> {
            answersQueued((coder, id) -> lineOf(coder, coder.formatMessage(id)),
                    id -> id + "!" + (1 + id % 5) + ":" + scatteredText(id));
            MessageCoder coder = new MessageCoder();
            for (int id = 0; id <= 101; id++) {
                post(coder, "b", 4);
                if (id == 9 || id == 10 || id == 99 || id == 100 || id == 101) {
                    same("line of " + id, lineOf(coder, coder.formatMessage(id)), id + "!4:b");
                }
                coder.drop(id);
            }
        });
        says("Returns the length of the line.", () -> {
            same("shortest", withMessage("a").formatMessage(0), 5);
            same("longest", withMessage(LONGEST).formatMessage(0), 20);
        });
        says(GONE_ID, () -> {
            refusesGone(MessageCoder::formatMessage);
            MessageCoder coder = withMessage("a");
            coder.formatMessage(0);
            fails("no id", ELEMENT, () -> coder.formatMessage(1));
            same("line left", lineOf(coder, 5), "0!3:a");
        });
    }

    private static void formatCode() {
        section("Promise 54");
        says("Formats the code of a symbol into the line, replacing the previous line: the symbol, \"=\" and the bits of "
                + "its code.", () -> {
            MessageCoder coder = withLongCodes();
            same("longest", lineOf(coder, coder.formatCode('g')), "g=1111110");
            same("short after long", lineOf(coder, coder.formatCode('a')), "a=0");
            weigh(coder, 1, 1, 1, 1, 1, 1, 1, 1);
            same("not formatted anew", lineOf(coder, 3), "a=0");
            same("leading zeros", lineOf(coder, coder.formatCode('b')), "b=001");
        });
        says(ANY_SYMBOL, () -> answersSymbols(withTies(), (coder, symbol) -> lineOf(coder, coder.formatCode(symbol)),
                "a=11110", "b=111110", "c=111111", "d=1110", "e=110", "f=00", "g=01", "h=10"));
        says("Returns the length of the line.", () ->
            answersSymbols(withLongCodes(), MessageCoder::formatCode, 3, 4, 5, 6, 7, 8, 9, 9));
        says(NO_SYMBOL, () -> {
            refusesSymbols(MessageCoder::formatCode);
            MessageCoder coder = new MessageCoder();
            coder.formatCode('h');
            fails("i", ARGUMENT, () -> coder.formatCode('i'));
            same("line left", lineOf(coder, 5), "h=111");
        });
    }

    private static void lineChar() {
        section("Promise 55");
        says("Returns a character of the line, which is empty at first.", () ->
            refusesBeyond(0, INDEX, new MessageCoder()::lineChar));
        says(ANY_INDEX, () -> {
            MessageCoder coder = withMessage("abcdefghabcdefga");
            coder.formatMessage(0);
            same("first", coder.lineChar(0), '0');
            same("last", coder.lineChar(19), 'a');
        });
        says("Returns the character.", () -> {
            MessageCoder coder = withMessage("h");
            coder.formatMessage(0);
            coder.drop(0);
            same("all", lineOf(coder, 5), "0!3:h");
        });
        says("Throws `IndexOutOfBoundsException` if the index is negative or not less than the length of the line", () -> {
            MessageCoder coder = withMessage(LONGEST);
            coder.formatMessage(0);
            refusesBeyond(20, INDEX, coder::lineChar);
            coder.formatCode('a');
            refusesBeyond(5, INDEX, coder::lineChar);
        });
    }
}
