/** For each promise of the document: ordinary inputs, the edges that it names, and wrong inputs. */
public final class PromisesTest extends Coders {
    private static final int[] NO_INTS = {Integer.MIN_VALUE, -1000, -1};

    public static void main(String[] args) throws ReflectiveOperationException {
        for (int n = 1; n <= 63; n++) {
            about("promise " + n);
            PromisesTest.class.getDeclaredMethod("promise" + n).invoke(null);
        }
        Check.end("PromisesTest");
    }

    // ---- Changes ----

    static void promise1() {
        MessageCoder coder = new MessageCoder();
        for (char symbol = 'a'; symbol <= 'h'; symbol++) {
            same("weight of " + symbol, coder.weightOf(symbol), 1);
        }
        same("draft", coder.draftLength(), 0);
        same("queue", coder.messageCount(), 0);
        same("frame", coder.hasFrame(), false);
        same("received", coder.receivedLength(), 0);
        same("totals", coder.sentTotal() + coder.receivedTotal() + coder.correctedTotal() + coder.failedTotal(), 0);
        same("undoable", coder.undoableCount(), 0);
        fails("line", INDEX, () -> coder.lineChar(0));
        same("first character", coder.append('x'), 1);
        same("first id", post(coder, "a", 1), 0);
        same("another object", new MessageCoder().messageCount(), 0);
    }

    static void promise2() {
        MessageCoder coder = new MessageCoder();
        same("before", coder.setWeight('c', 99), 1);
        same("before again", coder.setWeight('c', 1), 99);
        same("same weight", coder.setWeight('c', 1), 1);
        same("other symbol", coder.setWeight('h', 7), 1);
        same("weight set", coder.weightOf('h'), 7);
        for (int wrong : new int[] {Integer.MIN_VALUE, -1, 0, 100, 101, Integer.MAX_VALUE}) {
            fails("weight " + wrong, ARGUMENT, () -> coder.setWeight('a', wrong));
        }
        refusesSymbols(symbol -> coder.setWeight(symbol, 5));
        same("weight left", coder.weightOf('a'), 1);
        same("code follows", withLongCodes().codeLength('h'), 7);
    }

    static void promise3() {
        MessageCoder coder = new MessageCoder();
        for (int i = 0; i < 16; i++) {
            same("length", coder.addSymbol((char) ('a' + i % 8)), i + 1);
        }
        fails("full", STATE, () -> coder.addSymbol('a'));
        fails("full, but no symbol", ARGUMENT, () -> coder.addSymbol('i'));
        same("draft", draftOf(coder), "abcdefghabcdefgh");
        coder.clearDraft();
        refusesSymbols(coder::addSymbol);
        same("draft left", coder.draftLength(), 0);
    }

    static void promise4() {
        MessageCoder coder = new MessageCoder();
        same("empty", coder.clearDraft(), 0);
        draft(coder, "abc");
        same("before", coder.clearDraft(), 3);
        same("after", coder.draftLength(), 0);
        same("again", coder.clearDraft(), 0);
    }

    static void promise5() {
        MessageCoder coder = new MessageCoder();
        fails("empty draft", STATE, () -> coder.post(1));
        for (int wrong : new int[] {Integer.MIN_VALUE, -1, 0, 6, Integer.MAX_VALUE}) {
            fails("priority " + wrong + " of an empty draft", ARGUMENT, () -> coder.post(wrong));
        }
        for (int id = 0; id < 8; id++) {
            same("id", post(coder, "abc", 1 + id % 5), id);
            same("draft", coder.draftLength(), 0);
        }
        same("text", textOf(coder, 7), "abc");
        draft(coder, "d");
        fails("full queue", STATE, () -> coder.post(5));
        fails("full queue and priority", ARGUMENT, () -> coder.post(0));
        same("draft left", draftOf(coder), "d");
        coder.drop(7);
        same("next id", coder.post(5), 8);
        same("its text", textOf(coder, 8), "d");
        fails("dropped id", ELEMENT, () -> coder.lengthOf(7));
    }

    static void promise6() {
        MessageCoder coder = new MessageCoder();
        fails("empty queue", ELEMENT, () -> coder.drop(0));
        post(coder, "a", 1);
        post(coder, "b", 5);
        post(coder, "c", 3);
        same("two left", coder.drop(1), 2);
        fails("twice", ELEMENT, () -> coder.drop(1));
        same("order", queueOf(coder), "2 0");
        same("text of 0", textOf(coder, 0), "a");
        same("text of 2", textOf(coder, 2), "c");
        same("one left", coder.drop(0), 1);
        same("none left", coder.drop(2), 0);
        MessageCoder other = withMessage("a");
        refusesIds(other::drop);
    }

    static void promise7() {
        MessageCoder coder = new MessageCoder();
        for (int i = 0; i < 4; i++) {
            post(coder, "a", 3);
        }
        same("to the front", coder.setPriority(2, 4), 0);
        same("order", queueOf(coder), "2 0 1 3");
        same("lower id first", coder.setPriority(1, 4), 0);
        same("order", queueOf(coder), "1 2 0 3");
        same("to the end", coder.setPriority(1, 1), 3);
        same("no effect", coder.setPriority(0, 3), 1);
        same("highest", coder.setPriority(3, 5), 0);
        same("priority", coder.priorityOf(3), 5);
        for (int wrong : new int[] {Integer.MIN_VALUE, -1, 0, 6, Integer.MAX_VALUE}) {
            fails("priority " + wrong, ARGUMENT, () -> coder.setPriority(0, wrong));
            fails("id and priority " + wrong, ELEMENT, () -> coder.setPriority(4, wrong));
        }
        same("priority left", coder.priorityOf(0), 3);
        MessageCoder other = withMessage("a");
        refusesIds(id -> other.setPriority(id, 3));
    }

    static void promise8() {
        MessageCoder coder = withMessage("aabhhhhh");
        same("sum", coder.learn(0), 16);
        same("a", coder.weightOf('a'), 3);
        same("b", coder.weightOf('b'), 2);
        same("c", coder.weightOf('c'), 1);
        same("h", coder.weightOf('h'), 6);
        same("shorter code", coder.codeLength('h'), 1);
        coder.setWeight('h', 96);
        same("up to 99", coder.learn(0), 99 + 5 + 3 + 5);
        same("h at most", coder.weightOf('h'), 99);
        same("h stays", coder.learn(0), 99 + 7 + 4 + 5);
        same("message stays", coder.messageCount(), 1);
        refusesIds(coder::learn);
    }

    static void promise9() {
        MessageCoder coder = new MessageCoder();
        fails("empty queue", ELEMENT, coder::send);
        post(coder, "h", 1);
        post(coder, "hh", 5);
        same("bits of hh", coder.send(), 14);
        same("frame of hh", frameOf(coder), "11111110111100");
        same("queue", queueOf(coder), "0");
        same("bits of h", coder.send(), 7);
        same("frame of h", frameOf(coder), "0010110");
        same("sent", coder.sentTotal(), 2);
        fails("empty again", ELEMENT, coder::send);
        same("frame left", frameOf(coder), "0010110");
        MessageCoder longest = withLongCodes();
        post(longest, "hhhhhhhhhhhhhhhh", 1);
        same("longest frame", longest.send(), 196);
        MessageCoder shortest = withLongCodes();
        post(shortest, "a", 1);
        same("shortest frame", shortest.send(), 7);
        same("its bits", frameOf(shortest), "0000000");
    }

    static void promise10() {
        MessageCoder coder = withMessage("hh");
        fails("no frame", INDEX, () -> coder.flip(0));
        coder.send();
        same("one", coder.flip(0), 1);
        same("two", coder.flip(13), 2);
        same("back", coder.flip(0), 1);
        same("frame", frameOf(coder), "11111110111101");
        for (int wrong : new int[] {Integer.MIN_VALUE, -1, 14, 15, 196, Integer.MAX_VALUE}) {
            fails("bit " + wrong, INDEX, () -> coder.flip(wrong));
        }
        coder.receive();
        fails("received", INDEX, () -> coder.flip(0));
        MessageCoder all = withFrame("hh");
        flipAll(all, 0, 6);
        same("all seven bits make another block", all.flip(6), 0);
        same("its bits", frameOf(all), "00000000111100");
    }

    static void promise11() {
        MessageCoder coder = withMessage("hh");
        fails("no frame", ELEMENT, coder::receive);
        coder.send();
        coder.flip(3);
        coder.flip(9);
        same("damaged", coder.receive(), 2);
        same("corrected", receivedOf(coder), "hh");
        same("no frame any more", coder.hasFrame(), false);
        fails("twice", ELEMENT, coder::receive);
        same("text left", receivedOf(coder), "hh");

        MessageCoder wrong = withFrame("hh");
        flipAll(wrong, 0, 2);
        same("miscorrected block", wrong.receive(), 1);
        same("miscorrected text", receivedOf(wrong), "dh");
        same("failed", wrong.failedTotal(), 1);
        post(wrong, "abc", 1);
        wrong.send();
        same("whole", wrong.receive(), 0);
        same("earlier text replaced", receivedOf(wrong), "abc");

        MessageCoder present = withFrame("hg");
        weigh(present, 1, 2, 3, 4, 50, 60, 70, 80);
        present.receive();
        same("codes of the time of sending", receivedOf(present), "hg");

        MessageCoder incomplete = withLongCodes();
        post(incomplete, "a", 1);
        incomplete.send();
        flipAll(incomplete, 0, 7);
        same("no block damaged", incomplete.receive(), 0);
        same("incomplete code left out", receivedOf(incomplete), "");
        same("failed all the same", incomplete.failedTotal(), 1);

        MessageCoder padding = withLongCodes();
        post(padding, "ba", 1);
        padding.send();
        padding.flip(0);
        padding.flip(3);
        padding.flip(4);
        padding.receive();
        same("zeros at the end are decoded", receivedOf(padding), "ca");

        MessageCoder enough = withLongCodes();
        post(enough, "h", 1);
        enough.send();
        flipAll(enough, 0, 7);
        enough.receive();
        same("as many symbols as the message", receivedOf(enough), "a");
    }

    // ---- Codes ----

    static void promise12() {
        MessageCoder coder = withLongCodes();
        same("a", coder.weightOf('a'), 64);
        same("f", coder.weightOf('f'), 2);
        same("h", coder.weightOf('h'), 1);
        refusesSymbols(coder::weightOf);
    }

    static void promise13() {
        MessageCoder coder = new MessageCoder();
        same("at first", coder.totalWeight(), 8);
        weigh(coder, 99, 99, 99, 99, 99, 99, 99, 99);
        same("at most", coder.totalWeight(), 792);
        same("long codes", withLongCodes().totalWeight(), 128);
    }

    static void promise14() {
        same("equal weights", lengthsOf(new MessageCoder()), "33333333");
        same("long codes", lengthsOf(withLongCodes()), "12345677");
        same("ties", lengthsOf(withTies()), "56643222");
        MessageCoder rising = new MessageCoder();
        weigh(rising, 1, 1, 2, 4, 8, 16, 32, 64);
        same("rising", lengthsOf(rising), "77654321");
        checkTies("34224434", 3, 2, 4, 4, 2, 1, 3, 1);
        checkTies("42444233", 2, 4, 2, 1, 1, 4, 2, 2);
        checkTies("32532543", 4, 4, 1, 2, 4, 1, 1, 2);
        checkTies("45333522", 2, 1, 4, 2, 2, 1, 4, 4);
        refusesSymbols(rising::codeLength);
    }

    /** Weights whose lengths are others if equal groups are ordered by anything but their first symbols. */
    private static void checkTies(String due, int... weights) {
        MessageCoder coder = new MessageCoder();
        weigh(coder, weights);
        same("equal groups", lengthsOf(coder), due);
    }

    static void promise15() {
        MessageCoder coder = new MessageCoder();
        for (int s = 0; s < 8; s++) {
            same("equal weights", coder.codeValue((char) ('a' + s)), s);
        }
        MessageCoder ties = withTies();
        String[] due = {"11110", "111110", "111111", "1110", "110", "00", "01", "10"};
        for (int s = 0; s < 8; s++) {
            same("ties", codeOf(ties, (char) ('a' + s)), due[s]);
        }
        same("longest code", withLongCodes().codeValue('h'), 127);
        same("second longest code", withLongCodes().codeValue('g'), 126);
        refusesSymbols(coder::codeValue);
    }

    static void promise16() {
        same("equal weights", orderOf(new MessageCoder()), "abcdefgh");
        same("ties", orderOf(withTies()), "fghedabc");
        MessageCoder coder = withLongCodes();
        for (int wrong : new int[] {Integer.MIN_VALUE, -1, 8, 9, Integer.MAX_VALUE}) {
            fails("rank " + wrong, ELEMENT, () -> coder.symbolByCode(wrong));
        }
    }

    static void promise17() {
        same("equal weights", new MessageCoder().longestCode(), 3);
        same("long codes", withLongCodes().longestCode(), 7);
        same("ties", withTies().longestCode(), 6);
    }

    static void promise18() {
        same("equal weights", new MessageCoder().cost(), 24);
        same("long codes", withLongCodes().cost(), 254);
        same("ties", withTies().cost(), 921);
        MessageCoder coder = new MessageCoder();
        weigh(coder, 99, 99, 99, 99, 99, 99, 99, 99);
        same("at most", coder.cost(), 2376);
    }

    static void promise19() {
        same("equal weights", new MessageCoder().costByRanges(), 24);
        same("long codes", withLongCodes().costByRanges(), 254);
        MessageCoder coder = withTies();
        same("ties", coder.costByRanges(), 921);
        weigh(coder, 5, 90, 5, 17, 1, 33, 8, 2);
        same("mixed", coder.costByRanges(), coder.cost());
        weigh(coder, 64, 1, 2, 1, 32, 4, 16, 8);
        same("not in the order of the alphabet", coder.costByRanges(), 254);
    }

    static void promise20() {
        same("equal weights", new MessageCoder().isComplete(), true);
        same("long codes", withLongCodes().isComplete(), true);
        same("ties", withTies().isComplete(), true);
    }

    static void promise21() {
        same("equal weights", new MessageCoder().meanLength(), 3.0);
        same("long codes", withLongCodes().meanLength(), 1.984375);
        same("ties", withTies().meanLength(), 921.0 / 402.0);
    }

    // ---- Draft and messages ----

    static void promise22() {
        MessageCoder coder = new MessageCoder();
        same("empty", coder.draftLength(), 0);
        draft(coder, "aaaaaaaaaaaaaaaa");
        same("full", coder.draftLength(), 16);
        coder.post(1);
        same("posted", coder.draftLength(), 0);
    }

    static void promise23() {
        MessageCoder coder = new MessageCoder();
        fails("empty", INDEX, () -> coder.draftAt(0));
        draft(coder, "cab");
        same("first", coder.draftAt(0), 'c');
        same("last", coder.draftAt(2), 'b');
        for (int wrong : new int[] {Integer.MIN_VALUE, -1, 3, 16, Integer.MAX_VALUE}) {
            fails("index " + wrong, INDEX, () -> coder.draftAt(wrong));
        }
        coder.clearDraft();
        fails("cleared", INDEX, () -> coder.draftAt(0));
    }

    static void promise24() {
        MessageCoder coder = withLongCodes();
        same("empty", coder.draftBits(), 0);
        draft(coder, "abh");
        same("abh", coder.draftBits(), 1 + 2 + 7);
        coder.clearDraft();
        draft(coder, "hhhhgggghhhhgggg");
        same("at most", coder.draftBits(), 112);
        weigh(coder, 1, 1, 1, 1, 1, 1, 1, 1);
        same("by the present weights", coder.draftBits(), 48);
    }

    static void promise25() {
        MessageCoder coder = new MessageCoder();
        same("empty", coder.messageCount(), 0);
        for (int n = 1; n <= 8; n++) {
            post(coder, "a", 2);
            same("posted", coder.messageCount(), n);
        }
        coder.send();
        same("sent", coder.messageCount(), 7);
        coder.drop(4);
        same("dropped", coder.messageCount(), 6);
    }

    static void promise26() {
        MessageCoder coder = new MessageCoder();
        fails("empty", ELEMENT, () -> coder.messageAt(0));
        int[] priorities = {2, 5, 1, 5, 3, 2, 4, 1};
        for (int priority : priorities) {
            post(coder, "a", priority);
        }
        same("order", queueOf(coder), "1 3 6 4 0 5 2 7");
        coder.drop(3);
        same("order after a drop", queueOf(coder), "1 6 4 0 5 2 7");
        post(coder, "a", 5);
        same("order after a post", queueOf(coder), "1 8 6 4 0 5 2 7");
        for (int wrong : new int[] {Integer.MIN_VALUE, -1, 8, 9, Integer.MAX_VALUE}) {
            fails("rank " + wrong, ELEMENT, () -> coder.messageAt(wrong));
        }
        coder.send();
        fails("rank behind", ELEMENT, () -> coder.messageAt(7));
    }

    static void promise27() {
        MessageCoder coder = new MessageCoder();
        for (int priority = 1; priority <= 5; priority++) {
            post(coder, "a", priority);
        }
        for (int id = 0; id < 5; id++) {
            same("priority", coder.priorityOf(id), id + 1);
        }
        MessageCoder one = withMessage("a");
        refusesIds(one::priorityOf);
    }

    static void promise28() {
        MessageCoder coder = withMessage("abcdefghabcdefgh");
        same("longest", coder.lengthOf(0), 16);
        refusesIds(coder::lengthOf);
        post(coder, "g", 5);
        same("shortest", coder.lengthOf(1), 1);
        coder.send();
        fails("sent", ELEMENT, () -> coder.lengthOf(1));
    }

    static void promise29() {
        MessageCoder coder = withMessage("head");
        draft(coder, "badge");
        same("text", textOf(coder, 0), "head");
        for (int wrong : new int[] {Integer.MIN_VALUE, -1, 4, 15, 16, Integer.MAX_VALUE}) {
            fails("index " + wrong, INDEX, () -> coder.symbolAt(0, wrong));
            fails("id and index " + wrong, ELEMENT, () -> coder.symbolAt(1, wrong));
        }
        refusesIds(id -> coder.symbolAt(id, 0));
    }

    static void promise30() {
        MessageCoder coder = withMessage("cabbage");
        same("a", coder.countOf(0, 'a'), 2);
        same("b", coder.countOf(0, 'b'), 2);
        same("g", coder.countOf(0, 'g'), 1);
        same("h", coder.countOf(0, 'h'), 0);
        refusesSymbols(symbol -> coder.countOf(0, symbol));
        refusesIds(id -> coder.countOf(id, 'a'));
        fails("id and symbol", ELEMENT, () -> coder.countOf(1, 'x'));
    }

    static void promise31() {
        MessageCoder coder = withLongCodes();
        post(coder, "abc", 1);
        same("abc", coder.bitCount(0), 6);
        refusesIds(coder::bitCount);
        post(coder, "hhhhhhhhhhhhhhhh", 1);
        same("at most", coder.bitCount(1), 112);
        weigh(coder, 1, 1, 1, 1, 1, 1, 1, 1);
        same("by the present weights", coder.bitCount(0), 9);
    }

    static void promise32() {
        MessageCoder coder = withLongCodes();
        post(coder, "cabh", 1);
        same("bits", bitsOf(coder, 0), "1100101111111");
        for (int wrong : new int[] {Integer.MIN_VALUE, -1, 13, 14, 112, Integer.MAX_VALUE}) {
            fails("index " + wrong, INDEX, () -> coder.bitAt(0, wrong));
            fails("id and index " + wrong, ELEMENT, () -> coder.bitAt(1, wrong));
        }
        refusesIds(id -> coder.bitAt(id, 0));
        post(coder, "hhhhhhhhhhhhhhhh", 1);
        same("last bit", coder.bitAt(1, 111), 1);
        weigh(coder, 1, 1, 1, 1, 1, 1, 1, 1);
        same("by the present weights", bitsOf(coder, 0), "010000001111");
    }

    static void promise33() {
        MessageCoder coder = new MessageCoder();
        post(coder, "a", 1);
        post(coder, "b", 1);
        post(coder, "h", 1);
        post(coder, "hb", 1);
        same("000", coder.checksum(0), 0);
        same("001", coder.checksum(1), 3);
        same("111", coder.checksum(2), 9);
        same("111001", coder.checksum(3), 7);
        fails("no id", ELEMENT, () -> coder.checksum(4));
        coder.setWeight('h', 9);
        same("0 by the present weights", coder.checksum(2), 0);
        MessageCoder one = withMessage("a");
        refusesIds(one::checksum);
    }

    static void promise34() {
        MessageCoder coder = withLongCodes();
        String[] texts = {"a", "b", "c", "d", "h", "ha", "cabh", "hhhhhhhhhhhhhhhh"};
        for (String text : texts) {
            post(coder, text, 1);
        }
        for (int id = 0; id < texts.length; id++) {
            same(texts[id], coder.checksumByTable(id), coder.checksum(id));
        }
        MessageCoder equal = withMessage("hb");
        same("111001", equal.checksumByTable(0), 7);
        refusesIds(equal::checksumByTable);
    }

    static void promise35() {
        MessageCoder coder = new MessageCoder();
        String[] texts = {"abc", "abc", "ab", "abd", "cba"};
        for (int i = 0; i < texts.length; i++) {
            post(coder, texts[i], 1 + i);
        }
        for (int id = 0; id < texts.length; id++) {
            for (int other = 0; other < texts.length; other++) {
                same(texts[id] + " " + texts[other], coder.areEqual(id, other), texts[id].equals(texts[other]));
            }
        }
        MessageCoder one = withMessage("a");
        refusesIds(id -> one.areEqual(id, 0));
        refusesIds(id -> one.areEqual(0, id));
        refusesIds(id -> one.areEqual(id, id));
    }

    static void promise36() {
        MessageCoder coder = new MessageCoder();
        post(coder, "abcbdab", 1);
        post(coder, "bdcaba", 1);
        post(coder, "hhhh", 1);
        post(coder, "ggggggggggggggga", 1);
        post(coder, "aggggggggggggggg", 1);
        same("not next to each other", coder.commonLength(0, 1), 4);
        same("the other way", coder.commonLength(1, 0), 4);
        same("none", coder.commonLength(0, 2), 0);
        same("itself", coder.commonLength(0, 0), 7);
        same("longest", coder.commonLength(3, 4), 15);
        same("longest with itself", coder.commonLength(3, 3), 16);
        same("short after long", coder.commonLength(2, 0), 0);
        MessageCoder one = withMessage("a");
        refusesIds(id -> one.commonLength(id, 0));
        refusesIds(id -> one.commonLength(0, id));
    }

    // ---- Frame ----

    static void promise37() {
        MessageCoder coder = withMessage("a");
        same("before", coder.hasFrame(), false);
        coder.send();
        same("sent", coder.hasFrame(), true);
        coder.receive();
        same("received", coder.hasFrame(), false);
    }

    static void promise38() {
        MessageCoder coder = withMessage("abc");
        same("before", coder.frameLength(), 0);
        coder.send();
        same("sent", coder.frameLength(), 21);
        coder.setWeight('a', 99);
        same("by the weights of then", coder.frameLength(), 21);
        coder.receive();
        same("received", coder.frameLength(), 0);
    }

    static void promise39() {
        MessageCoder coder = withMessage("hh");
        fails("no frame", INDEX, () -> coder.frameBit(0));
        coder.send();
        same("frame", frameOf(coder), "11111110111100");
        for (int wrong : new int[] {Integer.MIN_VALUE, -1, 14, 20, 196, Integer.MAX_VALUE}) {
            fails("index " + wrong, INDEX, () -> coder.frameBit(wrong));
        }
        coder.receive();
        fails("received", INDEX, () -> coder.frameBit(0));
        post(coder, "bd", 1);
        coder.send();
        same("001011 and zeros", frameOf(coder), "01010100111100");
    }

    static void promise40() {
        MessageCoder coder = withMessage("hh");
        fails("no frame", INDEX, () -> coder.syndrome(0));
        coder.send();
        same("whole", coder.syndrome(0) + coder.syndrome(1), 0);
        for (int bit = 0; bit < 14; bit++) {
            coder.flip(bit);
            same("its block", coder.syndrome(bit / 7), bit % 7 + 1);
            same("the other", coder.syndrome(1 - bit / 7), 0);
            coder.flip(bit);
        }
        coder.flip(2);
        coder.flip(3);
        same("two flips", coder.syndrome(0), 7);
        for (int wrong : new int[] {Integer.MIN_VALUE, -1, 2, 3, 28, Integer.MAX_VALUE}) {
            fails("block " + wrong, INDEX, () -> coder.syndrome(wrong));
        }
        coder.receive();
        fails("received", INDEX, () -> coder.syndrome(0));
    }

    static void promise41() {
        checkCorrection(MessageCoder::correctedBits);
    }

    static void promise42() {
        checkCorrection(MessageCoder::correctedBitsByDistance);
    }

    private static void checkCorrection(java.util.function.BiFunction<MessageCoder, Integer, Integer> corrected) {
        MessageCoder coder = withMessage("hh");
        fails("no frame", INDEX, () -> corrected.apply(coder, 0));
        coder.send();
        for (int bit = 0; bit < 14; bit++) {
            coder.flip(bit);
            same("first block", corrected.apply(coder, 0), 15);
            same("second block", corrected.apply(coder, 1), 12);
            coder.flip(bit);
        }
        flipAll(coder, 0, 2);
        same("two flips", corrected.apply(coder, 0), 7);
        flipAll(coder, 2, 7);
        same("all flipped", corrected.apply(coder, 0), 0);
        coder.flip(0);
        same("nothing but read", frameOf(coder), "10000000111100");
        for (int wrong : new int[] {Integer.MIN_VALUE, -1, 2, 3, 28, Integer.MAX_VALUE}) {
            fails("block " + wrong, INDEX, () -> corrected.apply(coder, wrong));
        }
        coder.receive();
        fails("received", INDEX, () -> corrected.apply(coder, 0));
    }

    static void promise43() {
        MessageCoder coder = withMessage("hhhhhhhhhhhhhhhh");
        same("no frame", coder.damagedBlocks(), 0);
        coder.send();
        same("whole", coder.damagedBlocks(), 0);
        for (int block = 0; block < 12; block++) {
            coder.flip(block * 7 + block % 7);
            same("damaged", coder.damagedBlocks(), block + 1);
        }
        coder.receive();
        same("received", coder.damagedBlocks(), 0);
    }

    static void promise44() {
        MessageCoder coder = withMessage("hh");
        fails("no frame", ELEMENT, coder::isIntact);
        coder.send();
        same("whole", coder.isIntact(), true);
        coder.flip(4);
        same("one flip", coder.isIntact(), true);
        coder.flip(5);
        same("two flips", coder.isIntact(), false);
        same("nothing but read", coder.receivedLength(), 0);
        coder.flip(5);
        coder.setWeight('h', 99);
        same("by the codes of then", coder.isIntact(), true);
        coder.receive();
        fails("received", ELEMENT, coder::isIntact);
        MessageCoder behind = withFrame("h");
        flipAll(behind, 0, 7);
        same("another block", behind.isIntact(), false);
        MessageCoder padding = withFrame("c");
        padding.flip(0);
        padding.flip(1);
        padding.flip(3);
        padding.flip(6);
        same("a one in place of the zero at the end", padding.correctedBits(0), 5);
        same("the zero at the end does not matter", padding.isIntact(), true);
    }

    static void promise45() {
        MessageCoder coder = withFrame("abc");
        same("nothing received", coder.receivedLength(), 0);
        coder.receive();
        same("received", coder.receivedLength(), 3);
        post(coder, "a", 1);
        coder.send();
        same("stays", coder.receivedLength(), 3);
        coder.receive();
        same("replaced", coder.receivedLength(), 1);
    }

    static void promise46() {
        MessageCoder coder = withFrame("face");
        fails("nothing received", INDEX, () -> coder.receivedAt(0));
        coder.receive();
        same("text", receivedOf(coder), "face");
        for (int wrong : new int[] {Integer.MIN_VALUE, -1, 4, 15, 16, Integer.MAX_VALUE}) {
            fails("index " + wrong, INDEX, () -> coder.receivedAt(wrong));
        }
    }

    // ---- Totals ----

    static void promise47() {
        MessageCoder coder = new MessageCoder();
        for (int n = 1; n <= 3; n++) {
            post(coder, "a", 1);
            coder.send();
            same("sent", coder.sentTotal(), n);
        }
        fails("empty", ELEMENT, coder::send);
        same("not sent", coder.sentTotal(), 3);
    }

    static void promise48() {
        MessageCoder coder = withFrame("a");
        same("none", coder.receivedTotal(), 0);
        coder.receive();
        same("one", coder.receivedTotal(), 1);
        fails("no frame", ELEMENT, coder::receive);
        same("still one", coder.receivedTotal(), 1);
        post(coder, "a", 1);
        post(coder, "b", 1);
        coder.send();
        coder.send();
        coder.receive();
        same("the replaced frame does not count", coder.receivedTotal(), 2);
    }

    static void promise49() {
        MessageCoder coder = withFrame("hh");
        coder.flip(0);
        coder.flip(7);
        same("not yet", coder.correctedTotal(), 0);
        coder.receive();
        same("two", coder.correctedTotal(), 2);
        post(coder, "hh", 1);
        coder.send();
        coder.flip(0);
        coder.flip(1);
        coder.receive();
        same("a failed one counts too", coder.correctedTotal(), 3);
    }

    static void promise50() {
        MessageCoder coder = withFrame("hh");
        coder.flip(0);
        coder.receive();
        same("corrected", coder.failedTotal(), 0);
        post(coder, "hh", 1);
        coder.send();
        coder.flip(0);
        coder.flip(1);
        same("not yet", coder.failedTotal(), 0);
        coder.receive();
        same("failed", coder.failedTotal(), 1);
    }

    static void promise51() {
        MessageCoder coder = withFrame("hh");
        fails("none received", ArithmeticException.class, coder::failedShare);
        coder.flip(0);
        coder.flip(1);
        coder.receive();
        same("all", coder.failedShare(), 1.0f);
        for (int n = 2; n <= 3; n++) {
            post(coder, "a", 1);
            coder.send();
            coder.receive();
        }
        same("one of three", coder.failedShare(), 1.0f / 3.0f);
        MessageCoder good = withFrame("a");
        good.receive();
        same("none failed", good.failedShare(), 0.0f);
    }

    static void promise52() {
        same("new", new MessageCoder().isConsistent(), true);
        MessageCoder coder = withTies();
        post(coder, "abcdefgh", 1);
        post(coder, "hhhhhhhhhhhhhhhh", 2);
        coder.send();
        flipAll(coder, 0, 9);
        post(coder, "cabbage", 2);
        same("busy", coder.isConsistent(), true);
        same("queue left", queueOf(coder), "2 0");
        MessageCoder full = withLongCodes();
        for (int n = 0; n < 9; n++) {
            post(full, "hhhhhhhhhhhhhhhh", 1 + n % 5);
            if (n == 0) {
                full.send();
            }
        }
        full.flip(0);
        full.flip(195);
        same("full", full.isConsistent(), true);
        same("full queue left", full.messageCount() * 1000 + full.frameLength(), 8196);
    }

    // ---- Line ----

    static void promise53() {
        MessageCoder coder = new MessageCoder();
        for (int i = 0; i < 3; i++) {
            post(coder, "a", 1);
        }
        post(coder, "cabbage", 5);
        same("length", coder.formatMessage(3), 11);
        same("line", lineOf(coder, 11), "3!5:cabbage");
        same("shorter", coder.formatMessage(0), 5);
        same("shorter line", lineOf(coder, 5), "0!1:a");
        fails("no id", ELEMENT, () -> coder.formatMessage(4));
        same("line left", lineOf(coder, 5), "0!1:a");
        for (int i = 4; i < 101; i++) {
            coder.addSymbol('b');
            coder.post(2);
            if (i == 9 || i == 10 || i == 99 || i == 100) {
                same("line of " + i, lineOf(coder, coder.formatMessage(i)), i + "!2:b");
            }
            coder.drop(i);
        }
        post(coder, "abcdefghabcdefgh", 4);
        same("long id", coder.formatMessage(101), 22);
        same("long line", lineOf(coder, 22), "101!4:abcdefghabcdefgh");
        MessageCoder one = withMessage("a");
        refusesIds(one::formatMessage);
    }

    static void promise54() {
        MessageCoder coder = withLongCodes();
        same("length of h", coder.formatCode('h'), 9);
        same("h", lineOf(coder, 9), "h=1111111");
        same("length of a", coder.formatCode('a'), 3);
        same("a", lineOf(coder, 3), "a=0");
        refusesSymbols(coder::formatCode);
        same("line left", lineOf(coder, 3), "a=0");
        MessageCoder equal = new MessageCoder();
        same("b", lineOf(equal, equal.formatCode('b')), "b=001");
    }

    static void promise55() {
        MessageCoder coder = new MessageCoder();
        for (int wrong : NO_INTS) {
            fails("empty, index " + wrong, INDEX, () -> coder.lineChar(wrong));
        }
        fails("empty", INDEX, () -> coder.lineChar(0));
        coder.formatCode('e');
        same("first", coder.lineChar(0), 'e');
        same("second", coder.lineChar(1), '=');
        same("last", coder.lineChar(4), '0');
        for (int wrong : new int[] {Integer.MIN_VALUE, -1, 5, 31, 32, Integer.MAX_VALUE}) {
            fails("index " + wrong, INDEX, () -> coder.lineChar(wrong));
        }
    }

    // ---- Programs ----

    static void promise56() {
        MessageCoder coder = new MessageCoder();
        for (int wrong : new int[] {0, 9, 10, 31, 127, 128, 255, 0xffff}) {
            fails("character " + wrong, ARGUMENT, () -> coder.append((char) wrong));
        }
        same("lowest", coder.append(' '), 1);
        same("highest", coder.append('~'), 2);
        for (int n = 3; n <= 60; n++) {
            same("length", coder.append('a'), n);
        }
        fails("full", STATE, () -> coder.append('a'));
        fails("full, but no character", ARGUMENT, () -> coder.append((char) 127));
        same("no change", coder.undoableCount(), 0);
        fails("malformed", ARGUMENT, coder::run);
        same("empty again", coder.append('a'), 1);
    }

    static void promise57() {
        MessageCoder coder = new MessageCoder();
        same("one command", run(coder, "draft cabbage"), 1);
        same("draft", draftOf(coder), "cabbage");
        same("clear", run(coder, "clear"), 1);
        same("cleared", coder.draftLength(), 0);
        same("weight", run(coder, "weight h=099;weight a=5;weight b=07"), 3);
        same("weights", coder.totalWeight(), 99 + 5 + 7 + 5);
        same("post", run(coder, "draft a;post 5;draft bh;post 1;draft c;post 2"), 6);
        same("queue", queueOf(coder), "0 2 1");
        same("hurry", run(coder, "hurry 001 5;hurry 2 5"), 2);
        same("queue hurried", queueOf(coder), "0 1 2");
        same("drop", run(coder, "drop 00"), 1);
        same("queue without 0", queueOf(coder), "1 2");
        same("learn", run(coder, "learn 1;learn 2"), 2);
        same("weights learned", coder.totalWeight(), 118);
        same("send", run(coder, "send;flip 0;flip 1;flip 1"), 4);
        same("damaged", coder.damagedBlocks(), 1);
        same("receive", run(coder, "receive"), 1);
        same("received", receivedOf(coder), "bh");
        same("empty buffer", coder.append('x'), 1);
        fails("malformed", ARGUMENT, coder::run);
        same("empty buffer after it", coder.append('s'), 1);
        type(coder, "end;send");
        fails("fails", STATE, coder::run);
        same("empty buffer after that", coder.append('s'), 1);
        same("nothing sent", coder.sentTotal(), 1);
        same("queue left", queueOf(coder), "2");

        checkFailingRuns();
        checkLongRuns();
    }

    private static void checkFailingRuns() {
        MessageCoder full = new MessageCoder();
        type(full, "draft abcdefgh;draft abcdefgh;draft a;clear");
        fails("seventeenth symbol", STATE, full::run);
        same("draft rolled back", full.draftLength(), 0);
        type(full, "draft abcdefghabcdefgha;clear");
        fails("seventeen in one", STATE, full::run);
        same("draft rolled back again", full.draftLength(), 0);
        same("sixteen", run(full, "draft abcdefghabcdefgh"), 1);
        type(full, "weight a=9;weight b=0");
        fails("weight 0", STATE, full::run);
        same("weight rolled back", full.weightOf('a'), 1);
        same("code rolled back", full.codeLength('a'), 3);
        type(full, "post 1;drop 0;drop 0");
        fails("dropped twice", STATE, full::run);
        same("queue rolled back", full.messageCount(), 0);
        same("next id rolled back", full.post(1), 0);
        String[] failing = {"weight a=100", "weight a=000", "post 1", "draft a;post 0", "draft a;post 6", "drop 9",
            "hurry 9 1", "hurry 0 0", "hurry 0 9", "learn 9", "flip 0", "receive"};
        for (String program : failing) {
            type(full, program);
            fails(program, STATE, full::run);
        }
    }

    private static void checkLongRuns() {
        MessageCoder coder = new MessageCoder();
        same("ten commands", run(coder, "clear;clear;clear;clear;clear;clear;clear;clear;clear;clear"), 10);
        for (int n = 0; n < 8; n++) {
            post(coder, "ab", 1 + n % 5);
        }
        type(coder, "send;send;send;send;send;send;send;send;send;send;send;send");
        fails("twelve commands, of which the ninth fails", STATE, coder::run);
        same("the ninth", coder.failedCommand(), 8);
        same("none sent", coder.messageCount() * 10 + coder.sentTotal(), 80);
        same("eight", run(coder, "send;send;send;send;send;send;send;send"), 8);
        same("all sent", coder.messageCount() * 10 + coder.sentTotal(), 8);
    }

    static void promise58() {
        MessageCoder coder = new MessageCoder();
        fails("none yet", ELEMENT, coder::errorPosition);
        fails("empty program", ARGUMENT, coder::run);
        same("empty program", coder.errorPosition(), 0);
        String[][] malformed = {
            {"x", "0"}, {"dx", "1"}, {"dr", "2"}, {"drx", "2"}, {"drap", "3"}, {"droft", "3"}, {"Send", "0"},
            {" send", "0"}, {";", "0"}, {"drop", "4"}, {"drop ", "5"}, {"drop  ", "5"}, {"drop x", "5"},
            {"drop 1234", "8"}, {"draft", "5"}, {"draft ", "6"}, {"draft  ", "6"}, {"draft i", "6"},
            {"draft ai", "7"}, {"draft a;", "8"}, {"draft a;;", "8"}, {"draft a;x", "8"}, {"draft a b", "7"},
            {"weight", "6"}, {"weight ", "7"}, {"weight a", "8"}, {"weight a=", "9"}, {"weight a=x", "9"},
            {"weight a=1234", "12"}, {"weight i=1", "7"}, {"weight ab", "8"}, {"weight a 1", "8"}, {"clear ", "5"},
            {"clearx", "5"}, {"clea", "4"}, {"post", "4"}, {"post ", "5"}, {"post x", "5"}, {"post 10", "6"},
            {"hurry 1", "7"}, {"hurry 1 ", "8"}, {"hurry 1  ", "8"}, {"hurry 1 23", "9"}, {"hurry 1234", "9"},
            {"hurry  1", "6"}, {"hurry 1;", "7"}, {"learn 12a", "8"}, {"learn ", "6"}, {"send ", "4"}, {"sends", "4"},
            {"send;Send", "5"}, {"send ;send", "4"}, {"send,send", "4"}, {"flip -1", "5"}, {"flip 1;", "7"},
            {"receivee", "7"}, {"receiv", "6"}, {"post 1;post 22", "13"}};
        for (String[] one : malformed) {
            MessageCoder another = new MessageCoder();
            type(another, one[0]);
            fails(one[0], ARGUMENT, another::run);
            same(one[0], another.errorPosition(), Integer.parseInt(one[1]));
        }
        type(coder, "post 1;post 22");
        fails("malformed", ARGUMENT, coder::run);
        run(coder, "clear");
        same("latest malformed", coder.errorPosition(), 13);
        type(coder, "send");
        fails("failing", STATE, coder::run);
        same("not changed by failing", coder.errorPosition(), 13);
        type(coder, "clear;clear;clear;clear;clear;clear;clear;clear;clear;clear;");
        fails("60 characters", ARGUMENT, coder::run);
        same("length of the program", coder.errorPosition(), 60);
        type(coder, "send;send;send;send;send;send;send;send;send;send;send;send;");
        fails("12 commands and a semicolon", ARGUMENT, coder::run);
        same("its length", coder.errorPosition(), 60);
        type(coder, "draft abcdefghabcdefghabcdefghabcdefghabcdefghabcdefghabcdeh");
        fails("a long draft is well-formed", STATE, coder::run);
    }

    static void promise59() {
        MessageCoder coder = new MessageCoder();
        fails("none yet", ELEMENT, coder::failedCommand);
        type(coder, "send");
        fails("first", STATE, coder::run);
        same("first", coder.failedCommand(), 0);
        type(coder, "draft abc;clear;draft a;post 1;send;send");
        fails("last", STATE, coder::run);
        same("last", coder.failedCommand(), 5);
        type(coder, "draft abcdefgh;draft abcdefgh;draft h;send");
        fails("symbol too many", STATE, coder::run);
        same("commands count, not symbols", coder.failedCommand(), 2);
        type(coder, "sen");
        fails("malformed", ARGUMENT, coder::run);
        same("not changed by a malformed one", coder.failedCommand(), 2);
        run(coder, "clear");
        same("not changed by a good one", coder.failedCommand(), 2);
        type(coder, "clear;receive;receive");
        fails("middle", STATE, coder::run);
        same("middle", coder.failedCommand(), 1);
    }

    // ---- Undo ----

    static void promise60() {
        MessageCoder coder = new MessageCoder();
        same("none", coder.undoableCount(), 0);
        coder.setWeight('a', 1);
        same("without effect", coder.undoableCount(), 1);
        coder.clearDraft();
        same("without effect again", coder.undoableCount(), 2);
        run(coder, "draft abc;post 5;draft a");
        same("a run is one change", coder.undoableCount(), 3);
        coder.send();
        coder.flip(0);
        coder.receive();
        same("frame", coder.undoableCount(), 6);
        fails("no frame", ELEMENT, coder::receive);
        type(coder, "clear;send");
        fails("failing run", STATE, coder::run);
        type(coder, "clear;");
        fails("malformed run", ARGUMENT, coder::run);
        fails("no symbol", ARGUMENT, () -> coder.addSymbol('i'));
        fails("no weight", ARGUMENT, () -> coder.setWeight('a', 0));
        fails("no priority", ARGUMENT, () -> coder.post(0));
        fails("no message", ELEMENT, () -> coder.drop(9));
        fails("no bit", INDEX, () -> coder.flip(0));
        coder.formatCode('a');
        coder.isConsistent();
        coder.save();
        same("no changes", coder.undoableCount(), 6);
        coder.post(1);
        coder.setPriority(1, 1);
        same("eight", coder.undoableCount(), 8);
        coder.learn(1);
        coder.drop(1);
        same("at most eight", coder.undoableCount(), 8);
        coder.undo();
        same("undone", coder.undoableCount(), 7);
        coder.addSymbol('a');
        same("eight again", coder.undoableCount(), 8);
    }

    static void promise61() {
        MessageCoder coder = new MessageCoder();
        fails("nothing", STATE, coder::undo);
        for (int weight = 2; weight <= 21; weight++) {
            coder.setWeight('a', weight);
        }
        for (int n = 1; n <= 8; n++) {
            same("left", coder.undo(), 8 - n);
            same("weight", coder.weightOf('a'), 21 - n);
        }
        fails("no more than eight", STATE, coder::undo);
        same("weight left", coder.weightOf('a'), 13);

        MessageCoder each = new MessageCoder();
        each.addSymbol('h');
        each.addSymbol('g');
        each.undo();
        same("addSymbol", draftOf(each), "h");
        each.clearDraft();
        each.undo();
        same("clearDraft", draftOf(each), "h");
        each.post(4);
        each.undo();
        same("post", queueOf(each) + draftOf(each), "h");
        same("next id taken back", each.post(4), 0);
        each.drop(0);
        each.undo();
        same("drop", queueOf(each) + textOf(each, 0) + each.priorityOf(0), "0h4");
        each.setPriority(0, 1);
        each.undo();
        same("setPriority", each.priorityOf(0), 4);
        each.learn(0);
        each.undo();
        same("learn", each.totalWeight(), 8);
        each.setWeight('h', 50);
        each.undo();
        same("setWeight", each.codeLength('h'), 3);
        each.send();
        each.undo();
        same("send", queueOf(each) + each.hasFrame() + each.sentTotal(), "0false0");
        each.send();
        each.flip(2);
        each.undo();
        same("flip", frameOf(each), "0010110");
        flipAll(each, 0, 2);
        each.receive();
        same("receive", each.failedTotal() + receivedOf(each), "1d");
        each.undo();
        same("receive undone", each.failedTotal() + each.correctedTotal() + each.receivedTotal()
                + receivedOf(each) + frameOf(each), "0" + "1110110");
        run(each, "receive;draft a;post 1;weight a=99");
        each.undo();
        same("run", queueOf(each) + each.totalWeight() + frameOf(each), "81110110");
        checkUndoneWeights();
        checkUndoneFrames();
        checkUndoAfterFailing();
        checkLeftByUndo();
    }

    private static void checkUndoneWeights() {
        MessageCoder coder = withTies();
        coder.setWeight('a', 99);
        coder.undo();
        same("lengths", lengthsOf(coder), "56643222");
        same("order", orderOf(coder), "fghedabc");
        same("codes", codeOf(coder, 'a') + codeOf(coder, 'h'), "1111010");
        same("cost", coder.cost(), 921);
    }

    /** The earlier frame comes back with its message and its codes. */
    private static void checkUndoneFrames() {
        MessageCoder coder = withLongCodes();
        post(coder, "hhhhhhhhhhhhhhhh", 5);
        post(coder, "abc", 1);
        coder.send();
        coder.flip(100);
        weigh(coder, 1, 1, 1);
        coder.send();
        coder.undo();
        same("frame's length", coder.frameLength(), 196);
        same("flipped bit", coder.syndrome(14), 3);
        same("intact", coder.isIntact(), true);
        coder.receive();
        same("received", receivedOf(coder), "hhhhhhhhhhhhhhhh");
    }

    /** A change that fails takes nothing from the eight that can be undone. */
    private static void checkUndoAfterFailing() {
        MessageCoder coder = new MessageCoder();
        for (int weight = 2; weight <= 9; weight++) {
            coder.setWeight('a', weight);
        }
        fails("no frame", ELEMENT, coder::receive);
        type(coder, "weight a=50;send");
        fails("failing run", STATE, coder::run);
        for (int weight = 8; weight >= 1; weight--) {
            coder.undo();
            same("weight after failing changes", coder.weightOf('a'), weight);
        }
        fails("no more", STATE, coder::undo);
    }

    private static void checkLeftByUndo() {
        MessageCoder coder = new MessageCoder();
        coder.setWeight('a', 9);
        coder.save();
        coder.setWeight('a', 3);
        coder.formatCode('a');
        type(coder, "sen");
        fails("malformed", ARGUMENT, coder::run);
        type(coder, "send");
        fails("failing", STATE, coder::run);
        type(coder, "abc");
        coder.undo();
        coder.undo();
        same("weight", coder.weightOf('a'), 1);
        same("line", coder.lineChar(0), 'a');
        same("buffer", coder.append('d'), 4);
        same("error position", coder.errorPosition(), 3);
        same("failed command", coder.failedCommand(), 0);
        coder.restore();
        same("saved copy", coder.weightOf('a'), 9);
    }

    static void promise62() {
        MessageCoder coder = new MessageCoder();
        same("empty", coder.save(), 0);
        post(coder, "abc", 2);
        post(coder, "de", 2);
        same("two", coder.save(), 2);
        coder.drop(0);
        coder.drop(1);
        same("restored", coder.restore(), 2);
        same("text", textOf(coder, 0) + textOf(coder, 1), "abcde");
        coder.drop(0);
        coder.save();
        post(coder, "h", 5);
        coder.setPriority(1, 5);
        same("earlier copy replaced", coder.restore(), 1);
        same("queue", queueOf(coder) + " " + coder.priorityOf(1), "1 2");
        same("undo after a save", undoneAfterSave(), 1);
    }

    private static int undoneAfterSave() {
        MessageCoder coder = new MessageCoder();
        coder.setWeight('a', 7);
        coder.save();
        coder.undo();
        return coder.weightOf('a');
    }

    static void promise63() {
        MessageCoder coder = new MessageCoder();
        fails("no copy", STATE, coder::restore);
        coder.setWeight('h', 40);
        post(coder, "hh", 2);
        post(coder, "ab", 1);
        coder.send();
        coder.flip(1);
        draft(coder, "cd");
        coder.save();
        String before = stateOf(coder);
        coder.receive();
        run(coder, "weight a=90;post 5;draft e;send;hurry 1 4;learn 1;drop 1");
        same("changed", stateOf(coder).equals(before), false);
        for (int n = 0; n < 2; n++) {
            same("restored", coder.restore(), 1);
            same("everything", stateOf(coder), before);
            same("nothing to undo", coder.undoableCount(), 0);
            fails("undo", STATE, coder::undo);
            coder.receive();
            coder.send();
            coder.clearDraft();
        }
        coder.restore();
        same("next id", coder.post(1), 2);
        coder.undo();
        same("undo after a restore", stateOf(coder), before);
        MessageCoder frame = withFrame("hh");
        frame.save();
        frame.receive();
        frame.restore();
        frame.receive();
        same("received", receivedOf(frame) + frame.receivedTotal(), "hh1");
    }
}
