import java.util.TreeSet;

/** A test for each sentence of the terms, but for those of commands, of undo and of errors. */
final class TermsBoundaries extends Boundaries {
    static void all() {
        use();
        symbols();
        codes();
        orderOfCodes();
        messages();
        ids();
        checksums();
        frames();
        blocks();
        receiving();
        decoding();
    }

    private static void use() {
        section("What it is");
        says("A coder for messages: codes whose lengths follow from weights, checksums, frames of blocks that can be "
                + "corrected, and a queue of messages by priority.", () -> {
            MessageCoder coder = new MessageCoder();
            same("all of it stands in a new object", coder.isConsistent(), true);
        });
        says("An object is used for at most 512 calls after it has been made; what later calls answer is free.", () -> {
            MessageCoder coder = new MessageCoder();
            for (int call = 1; call <= 511; call++) {
                coder.setWeight('a', 1 + call % 99);
            }
            same("call 512", coder.weightOf('a'), 1 + 511 % 99);
            MessageCoder posting = new MessageCoder();
            for (int id = 0; id < 170; id++) {
                posting.addSymbol('a');
                same("id", posting.post(5), id);
                same("dropped", posting.drop(id), 0);
            }
            posting.addSymbol('a');
            same("id of call 512", posting.post(5), 170);
        });
    }

    // ---- Symbols and codes ----

    private static void symbols() {
        section("Symbols");
        says("The symbols are 'a' to 'h'.", () -> {
            MessageCoder coder = new MessageCoder();
            for (char symbol : SYMBOLS.toCharArray()) {
                same("length of " + symbol, coder.addSymbol(symbol), symbol - 'a' + 1);
            }
            fails("before a", ARGUMENT, () -> coder.addSymbol('`'));
            fails("behind h", ARGUMENT, () -> coder.addSymbol('i'));
            fails("A", ARGUMENT, () -> coder.addSymbol('A'));
            same("ranks", orderOf(coder), SYMBOLS);
            fails("ninth rank", ELEMENT, () -> coder.symbolByCode(8));
        });
        says("Each symbol has a weight from 1 to 99, initially 1.", () -> {
            MessageCoder coder = new MessageCoder();
            for (char symbol : SYMBOLS.toCharArray()) {
                same("initially", coder.weightOf(symbol), 1);
                coder.setWeight(symbol, 99);
                same("highest", coder.weightOf(symbol), 99);
                fails("too high", ARGUMENT, () -> coder.setWeight(symbol, 100));
                same("left", coder.weightOf(symbol), 99);
                coder.setWeight(symbol, 1);
                fails("too low", ARGUMENT, () -> coder.setWeight(symbol, 0));
                same("lowest", coder.weightOf(symbol), 1);
            }
        });
    }

    private static void checkLengths(String due, int... weights) {
        MessageCoder coder = new MessageCoder();
        weigh(coder, weights);
        same("lengths", lengthsOf(coder), due);
    }

    private static void codes() {
        section("Codes");
        says("The length of the code of each symbol is found as follows. At first, each symbol is a group of its own, "
                + "whose weight is that of the symbol.", () -> {
            checkLengths("33333333", 1, 1, 1, 1, 1, 1, 1, 1);
            checkLengths("33333333", 99, 99, 99, 99, 99, 99, 99, 99);
            checkLengths("44444431", 1, 1, 1, 1, 1, 1, 1, 99);
            checkLengths("14444443", 99, 1, 1, 1, 1, 1, 1, 1);
        });
        says("As long as there are several groups, the two groups with the lowest weights are joined, and their "
                + "weights are added", () -> {
            checkLengths("77654321", 1, 1, 2, 3, 5, 8, 13, 21);
            checkLengths("12345677", 34, 21, 13, 8, 5, 3, 2, 1);
            checkLengths("33333333", 50, 51, 52, 53, 54, 55, 56, 57);
            checkLengths("33333333", 50, 51, 52, 53, 54, 55, 98, 99);
        });
        says("of groups with equal weights, the one that contains the symbol that is first in the alphabet counts as "
                + "lower.", () -> {
            checkLengths("65432226", 1, 2, 2, 99, 99, 99, 99, 1);
            checkLengths("56643222", 2, 1, 1, 2, 99, 99, 99, 99);
            checkLengths("55322255", 2, 2, 99, 99, 99, 99, 1, 1);
            checkLengths("34224434", 3, 2, 4, 4, 2, 1, 3, 1);
        });
        says("The length of the code of a symbol is the number of joins in which its group took part.", () -> {
            same("one to seven joins", lengthsOf(withLongCodes()), "12345677");
            MessageCoder coder = withLongCodes();
            weigh(coder, 1, 1, 1, 1, 1, 1, 1, 1);
            same("three joins each, after others", lengthsOf(coder), "33333333");
        });
    }

    private static String codesOf(MessageCoder coder) {
        StringBuilder codes = new StringBuilder();
        for (char symbol : orderOf(coder).toCharArray()) {
            codes.append(symbol).append(codeOf(coder, symbol)).append(' ');
        }
        return codes.toString().trim();
    }

    private static MessageCoder weighed(int... weights) {
        MessageCoder coder = new MessageCoder();
        weigh(coder, weights);
        return coder;
    }

    private static void orderOfCodes() {
        says("Then the symbols are ordered by the lengths of their codes, and symbols with equal lengths by the "
                + "alphabet.", () -> {
            same("all equal", orderOf(new MessageCoder()), "abcdefgh");
            same("all equal, weights falling", orderOf(weighed(57, 56, 55, 54, 53, 52, 51, 50)), "abcdefgh");
            same("last is shortest", orderOf(weighed(1, 1, 1, 1, 1, 1, 1, 99)), "hgabcdef");
            same("against the alphabet", orderOf(weighed(1, 1, 2, 4, 8, 16, 32, 64)), "hgfedcab");
        });
        says("The code of the first symbol consists of zeros.", () -> {
            same("one zero", codeOf(weighed(1, 1, 1, 1, 1, 1, 1, 99), 'h'), "0");
            same("two zeros", codeOf(withTies(), 'f'), "00");
            same("three zeros", codeOf(new MessageCoder(), 'a'), "000");
        });
        says("The code of each further symbol, as a binary number, is the one before plus 1, followed by as many zeros "
                + "as its code is longer than the one before.", () -> {
            same("no zeros", codesOf(new MessageCoder()), "a000 b001 c010 d011 e100 f101 g110 h111");
            same("two zeros", codesOf(weighed(1, 1, 1, 1, 1, 1, 1, 99)),
                    "h0 g100 a1010 b1011 c1100 d1101 e1110 f1111");
            same("a zero each", codesOf(withLongCodes()),
                    "a0 b10 c110 d1110 e11110 f111110 g1111110 h1111111");
        });
    }

    // ---- Messages ----

    private static void messages() {
        section("Messages");
        says("The draft consists of 0 to 16 symbols, initially none.", () -> {
            MessageCoder coder = new MessageCoder();
            same("initially", coder.draftLength(), 0);
            draft(coder, LONGEST);
            same("full", draftOf(coder), LONGEST);
            fails("one more", STATE, () -> coder.addSymbol('a'));
            same("left", draftOf(coder), LONGEST);
        });
        says("When it is posted, it becomes a message with a priority from 1 to 5, and the draft is empty.", () -> {
            MessageCoder coder = new MessageCoder();
            draft(coder, LONGEST);
            fails("below", ARGUMENT, () -> coder.post(0));
            fails("above", ARGUMENT, () -> coder.post(6));
            coder.post(1);
            same("message", textOf(coder, 0) + coder.priorityOf(0), LONGEST + "1");
            same("draft", coder.draftLength(), 0);
            same("first symbol of the next", coder.addSymbol('h'), 1);
            coder.post(5);
            same("next message", textOf(coder, 1) + coder.priorityOf(1), "h5");
            same("first message still", textOf(coder, 0), LONGEST);
        });
        says("At most 8 messages are in the queue.", () -> {
            MessageCoder coder = withFullQueue();
            same("eight", coder.messageCount(), 8);
            coder.addSymbol('b');
            fails("ninth", STATE, () -> coder.post(1));
            same("still eight", coder.messageCount(), 8);
            coder.send();
            coder.post(1);
            same("eight again", queueOf(coder), "1 2 3 4 5 6 7 8");
        });
        says("The order of the queue is: greater priority first, then lower id.", () -> {
            same("scattered", queueOf(scattered()), "4 3 8 7 1 6 5");
            MessageCoder coder = withFullQueue();
            same("equal priorities", queueOf(coder), "0 1 2 3 4 5 6 7");
            coder.setPriority(7, 5);
            coder.setPriority(0, 1);
            coder.setPriority(3, 5);
            coder.setPriority(4, 1);
            same("both ends", queueOf(coder), "3 7 1 2 5 6 0 4");
            coder.drop(5);
            post(coder, "b", 3);
            same("a new one behind its equals", queueOf(coder), "3 7 1 2 6 8 0 4");
        });
        says("The bits of a message are the codes of its symbols, one after the other, by the present weights.", () -> {
            MessageCoder coder = withLongCodes();
            post(coder, "hagb", 1);
            same("bits", bitsOf(coder, 0), "1111111" + "0" + "1111110" + "10");
            weigh(coder, 1, 1, 1, 1, 1, 1, 1, 1);
            same("after other weights", bitsOf(coder, 0), "111" + "000" + "110" + "001");
            for (int n = 0; n < 8; n++) {
                coder.undo();
            }
            same("after undo", bitsOf(coder, 0), "1111111" + "0" + "1111110" + "10");
        });
    }

    private static void ids() {
        says("A new message gets the next free id: the first message has id 0, and each further message has the id of "
                + "the message posted before it plus 1.", () -> {
            MessageCoder coder = new MessageCoder();
            fails("empty draft", STATE, () -> coder.post(1));
            same("first", post(coder, "a", 1), 0);
            same("second", post(coder, "a", 5), 1);
            coder.drop(1);
            same("after the latest was dropped", post(coder, "a", 5), 2);
            coder.send();
            coder.drop(0);
            same("after all have left", post(coder, "a", 1), 3);
            draft(coder, "b");
            fails("priority", ARGUMENT, () -> coder.post(6));
            same("after a refused one", coder.post(2), 4);
            fails(coder, "draft a;post 1;post 1", STATE);
            same("after a failing program", post(coder, "a", 1), 5);
            run(coder, "draft a;post 1;draft b;post 1");
            same("after a program", post(coder, "a", 1), 8);
        });
        says("Undo and restore also take back the next free id.", () -> {
            MessageCoder coder = new MessageCoder();
            post(coder, "a", 1);
            coder.save();
            post(coder, "b", 1);
            coder.undo();
            same("after undo", coder.post(1), 1);
            post(coder, "c", 1);
            coder.drop(2);
            coder.undo();
            same("the drop alone is taken back", post(coder, "d", 1), 3);
            coder.restore();
            same("after restore", post(coder, "e", 1), 1);
            coder.restore();
            same("after another restore", post(coder, "f", 1), 1);
        });
    }

    // ---- Checksums ----

    /** The long division by hand: the divisor is taken away below each one. */
    private static int divided(String bits) {
        char[] rest = (bits + "0000").toCharArray();
        for (int i = 0; i < bits.length(); i++) {
            for (int j = 0; j < 5 && rest[i] == '1'; j++) {
                if (j > 0 && "10011".charAt(j) == '1') {
                    rest[i + j] = rest[i + j] == '1' ? '0' : '1';
                }
            }
        }
        return Integer.parseInt(new String(rest, bits.length(), 4), 2);
    }

    private static void checkDivision(MessageCoder coder, String text) {
        int id = post(coder, text, 1);
        same("checksum of " + text, coder.checksum(id), divided(bitsOf(coder, id)));
        same("by table, of " + text, coder.checksumByTable(id), divided(bitsOf(coder, id)));
        coder.drop(id);
    }

    private static void checksums() {
        section("Checksums");
        says("The checksum of a message is the remainder of the division of its bits, followed by four zeros, by the "
                + "bits 10011", () -> {
            MessageCoder coder = withLongCodes();
            for (String text : new String[] {"a", "b", "c", "d", "e", "f", "g", "h", "aa", "ah", "hg"}) {
                checkDivision(coder, text);
            }
            checkDivision(withLongCodes(), "hhhhhhhhhhhhhhhh");
            checkDivision(withLongCodes(), "aaaaaaaaaaaaaaaa");
            checkDivision(new MessageCoder(), "hcdhcdhcdhcdhcdb");
            checkDivision(new MessageCoder(), "abcdefghabcdefgh");
        });
        says("where bits are coefficients of polynomials whose sums are taken modulo 2.", () -> {
            MessageCoder coder = new MessageCoder();
            post(coder, "cd", 1);
            same("010011 leaves nothing", coder.checksum(0), 0);
            post(coder, "b", 1);
            same("001", coder.checksum(1), 3);
            post(coder, "c", 1);
            same("010", coder.checksum(2), 6);
            post(coder, "d", 1);
            same("011 is their sum modulo 2", coder.checksum(3), 3 ^ 6);
        });
        says("It is given as a number from 0 to 15.", () -> {
            TreeSet<Integer> found = new TreeSet<>();
            for (char first : SYMBOLS.toCharArray()) {
                MessageCoder coder = new MessageCoder();
                for (char second : SYMBOLS.toCharArray()) {
                    found.add(coder.checksum(post(coder, "" + first + second, 1)));
                }
            }
            same("numbers", found.size(), 16);
            same("least", found.first(), 0);
            same("greatest", found.last(), 15);
        });
    }

    // ---- Frames ----

    private static void frames() {
        section("Frames");
        says("When a message is sent, it leaves the queue, and a frame is made of its bits; an earlier frame is "
                + "replaced.", () -> {
            MessageCoder coder = new MessageCoder();
            post(coder, LONGEST, 2);
            post(coder, "h", 1);
            coder.send();
            same("queue", queueOf(coder), "1");
            fails("left", ELEMENT, () -> coder.lengthOf(0));
            same("long frame", coder.frameLength(), 84);
            coder.flip(0);
            coder.send();
            same("empty queue", coder.messageCount(), 0);
            same("replaced by a shorter one", frameOf(coder), "0010110");
            same("its damage is gone", coder.damagedBlocks(), 0);
            fails("beyond it", INDEX, () -> coder.frameBit(7));
        });
        says("As many zeros follow the bits as are needed for a number of bits that is a multiple of 4.", () -> {
            for (int symbols = 1; symbols <= 16; symbols++) {
                MessageCoder coder = new MessageCoder();
                post(coder, "hhhhhhhhhhhhhhhh".substring(0, symbols), 1);
                int blocks = (symbols * 3 + 3) / 4;
                same("bits of " + symbols, coder.send(), blocks * 7);
                int zeros = blocks * 4 - symbols * 3;
                same("last block of " + symbols, coder.correctedBits(blocks - 1), 15 >> zeros << zeros);
            }
            same("one bit", withShortestFrame().frameLength(), 7);
            same("112 bits", withLongestFrame().frameLength(), 196);
        });
    }

    private static String blockOf(int data) {
        int d1 = data >> 3 & 1;
        int d2 = data >> 2 & 1;
        int d3 = data >> 1 & 1;
        int d4 = data & 1;
        return "" + (d1 + d2 + d4) % 2 + (d1 + d3 + d4) % 2 + d1 + (d2 + d3 + d4) % 2 + d2 + d3 + d4;
    }

    private static int syndromeOf(String block) {
        int[] b = block.chars().map(bit -> bit - '0').toArray();
        return (b[0] + b[2] + b[4] + b[6]) % 2 + 2 * ((b[1] + b[2] + b[5] + b[6]) % 2)
                + 4 * ((b[3] + b[4] + b[5] + b[6]) % 2);
    }

    /** A frame of one block, 0000000 at first, with the bits of the mask flipped. */
    private static MessageCoder withBlock(int mask) {
        MessageCoder coder = withShortestFrame();
        for (int bit = 0; bit < 7; bit++) {
            if ((mask >> bit & 1) == 1) {
                coder.flip(bit);
            }
        }
        return coder;
    }

    private static void blocks() {
        says("Each 4 bits d1, d2, d3, d4 become a block of 7 bits: p1, p2, d1, p3, d2, d3, d4, where p1 is the sum of "
                + "d1, d2 and d4, p2 that of d1, d3 and d4, and p3 that of d2, d3 and d4, all modulo 2.", () -> {
            for (int data = 0; data < 16; data++) {
                MessageCoder coder = new MessageCoder();
                post(coder, "" + SYMBOLS.charAt(data >> 1) + SYMBOLS.charAt((data & 1) << 2), 1);
                coder.send();
                same("block of " + data, frameOf(coder).substring(0, 7), blockOf(data));
                same("block behind it", frameOf(coder).substring(7), "0000000");
            }
        });
        says("The syndrome of a block is 1 if the sum of its p1, d1, d2 and d4 is odd, plus 2 if that of its p2, d1, "
                + "d3 and d4 is odd, plus 4 if that of its p3, d2, d3 and d4 is odd.", () -> {
            for (int mask = 0; mask < 128; mask++) {
                MessageCoder coder = withBlock(mask);
                same("block " + frameOf(coder), coder.syndrome(0), syndromeOf(frameOf(coder)));
            }
        });
        says("A block is damaged if its syndrome is not 0.", () -> {
            int whole = 0;
            for (int mask = 0; mask < 128; mask++) {
                MessageCoder coder = withBlock(mask);
                int damaged = coder.damagedBlocks();
                whole += 1 - damaged;
                same("block " + frameOf(coder), damaged, syndromeOf(frameOf(coder)) == 0 ? 0 : 1);
            }
            same("blocks that are not damaged", whole, 16);
        });
    }

    // ---- Receiving ----

    private static void receiving() {
        section("Receiving");
        says("When the frame is received, in each damaged block the bit is flipped whose place, counted from 1, is the "
                + "syndrome.", () -> {
            for (int bit = 0; bit < 14; bit++) {
                MessageCoder coder = withFrame("hb");
                coder.flip(bit);
                same("damaged", coder.receive(), 1);
                same("text", receivedOf(coder), "hb");
            }
            MessageCoder all = withLongestFrame();
            for (int block = 0; block < 28; block++) {
                all.flip(block * 7 + block % 7);
            }
            same("all damaged", all.receive(), 28);
            same("all mended", receivedOf(all), "hghghghghghghghg");
            MessageCoder two = withFrame("hh");
            flipAll(two, 0, 2);
            same("two flips in a block", two.receive(), 1);
            same("a third bit is flipped", receivedOf(two), "dh");
        });
        says("are decoded with the codes that were used when the frame was made", () -> {
            MessageCoder coder = new MessageCoder();
            coder.setWeight('a', 50);
            post(coder, "ahg", 1);
            coder.send();
            coder.undo();
            coder.undo();
            same("message is back", coder.addSymbol('h') + draftOf(coder), "4ahgh");
            coder.clearDraft();
            post(coder, "hga", 1);
            coder.send();
            weigh(coder, 1, 2, 3, 4, 5, 6, 7, 8);
            coder.receive();
            same("by the weights of the sending", receivedOf(coder), "hga");
        });
        says("The symbols are the received text, which replaces an earlier one, and there is no frame any more.", () -> {
            MessageCoder coder = withFrame(LONGEST);
            coder.receive();
            same("long text", receivedOf(coder), LONGEST);
            same("no frame", coder.hasFrame(), false);
            fails("no second time", ELEMENT, coder::receive);
            post(coder, "b", 1);
            coder.send();
            same("not yet", coder.receivedLength(), 16);
            coder.receive();
            same("shorter text", receivedOf(coder), "b");
            weigh(coder, 64, 32, 16, 8, 4, 2, 1, 1);
            post(coder, "a", 1);
            coder.send();
            flipAll(coder, 0, 7);
            coder.receive();
            same("empty text", coder.receivedLength(), 0);
        });
    }

    /** A frame of zeros; all seven bits of one of its blocks are flipped, so that its bits are 1111, undamaged. */
    private static MessageCoder withOnes(String text, int block) {
        MessageCoder coder = withLongCodes();
        post(coder, text, 1);
        coder.send();
        flipAll(coder, block * 7, block * 7 + 7);
        same("undamaged", coder.receive(), 0);
        return coder;
    }

    private static void decoding() {
        says("until there are as many symbols as the message has", () -> {
            MessageCoder zeros = withShortestFrame();
            zeros.receive();
            same("three zeros are left", receivedOf(zeros), "a");
            MessageCoder coder = withLongCodes();
            post(coder, "h", 1);
            coder.send();
            flipAll(coder, 0, 14);
            coder.receive();
            same("h became many", receivedOf(coder), "a");
            MessageCoder full = withLongCodes();
            post(full, "hhhhhhhhhhhhhhhh", 1);
            full.send();
            flipAll(full, 0, 196);
            full.receive();
            same("no more than sixteen", receivedOf(full), "aaaaaaaaaaaaaaaa");
        });
        says("or the bits end", () -> {
            same("fewer than the message", receivedOf(withOnes("aaaaa", 0)), "eaaa");
            same("fewer than sixteen", receivedOf(withOnes("aaaaaaaaaaaaaaaa", 2)), "aaaaaaaaeaaa");
            same("they fail", withOnes("aaaaa", 0).failedTotal(), 1);
        });
        says("the bits of a code that is not complete are left out.", () -> {
            same("no symbol at all", receivedOf(withOnes("aaaa", 0)), "");
            same("behind symbols", receivedOf(withOnes("aaaaa", 1)), "aaaa");
            same("behind twelve symbols", receivedOf(withOnes("aaaaaaaaaaaaaaaa", 3)), "aaaaaaaaaaaa");
        });
    }
}
