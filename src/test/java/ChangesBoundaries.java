/** A test for each sentence of promises 1 to 11: a new object, and the changes. */
final class ChangesBoundaries extends Boundaries {
    private static final String GONE_ID = "Throws `NoSuchElementException` if no message in the queue has this id";
    private static final String ANY_ID = "- `id`: the id of a message in the queue";
    private static final String ANY_PRIORITY = "- `priority`: the priority, 1 to 5";
    private static final String NO_PRIORITY = "Throws `IllegalArgumentException` if the priority is out of range";
    private static final int[] NO_PRIORITIES = {Integer.MIN_VALUE, -5, -1, 0, 6, 7, Integer.MAX_VALUE};

    static void all() {
        newObject();
        setWeight();
        addSymbol();
        clearDraft();
        post();
        drop();
        setPriority();
        learn();
        send();
        flip();
        receive();
    }

    private static void newObject() {
        section("Promise 1");
        says("Creates a coder in which all weights are 1, with an empty draft and queue, and without a frame.", () -> {
            MessageCoder coder = new MessageCoder();
            answersSymbols(coder, MessageCoder::weightOf, 1, 1, 1, 1, 1, 1, 1, 1);
            same("draft", coder.draftLength(), 0);
            same("queue", coder.messageCount(), 0);
            same("frame", coder.hasFrame(), false);
            same("frame's length", coder.frameLength(), 0);
            same("received text", coder.receivedLength(), 0);
            same("undoable", coder.undoableCount(), 0);
            same("totals", "" + coder.sentTotal() + coder.receivedTotal() + coder.correctedTotal() + coder.failedTotal(),
                    "0000");
            fails("saved copy", STATE, coder::restore);
            MessageCoder busy = withFrame("ab");
            same("a second object has nothing of the first", new MessageCoder().hasFrame(), false);
            same("nor the first of the second", busy.hasFrame(), true);
        });
    }

    private static void setWeight() {
        section("Promise 2");
        says("Sets the weight of a symbol.", () -> {
            MessageCoder coder = new MessageCoder();
            coder.setWeight('d', 7);
            answersSymbols(coder, MessageCoder::weightOf, 1, 1, 1, 7, 1, 1, 1, 1);
            same("the codes follow", coder.codeLength('d'), 1);
        });
        says("- `symbol`: the symbol, 'a' to 'h'", () -> {
            MessageCoder coder = new MessageCoder();
            coder.setWeight('a', 2);
            coder.setWeight('h', 3);
            answersSymbols(coder, MessageCoder::weightOf, 2, 1, 1, 1, 1, 1, 1, 3);
        });
        says("- `weight`: the weight, 1 to 99", () -> {
            MessageCoder coder = new MessageCoder();
            coder.setWeight('a', 99);
            same("highest", coder.weightOf('a'), 99);
            coder.setWeight('a', 1);
            same("lowest", coder.weightOf('a'), 1);
        });
        says("Returns the weight before.", () -> {
            MessageCoder coder = new MessageCoder();
            same("initial", coder.setWeight('h', 99), 1);
            same("highest", coder.setWeight('h', 99), 99);
            same("the same again", coder.setWeight('h', 1), 99);
            coder.undo();
            same("after an undo", coder.setWeight('h', 5), 99);
        });
        says("Throws `IllegalArgumentException` if there is no such symbol", () ->
            refusesSymbols((coder, symbol) -> coder.setWeight(symbol, 5)));
        says("or the weight is out of range", () -> {
            for (int wrong : new int[] {Integer.MIN_VALUE, -99, -1, 0, 100, 101, 1 << 16 | 5, Integer.MAX_VALUE}) {
                MessageCoder coder = new MessageCoder();
                fails("weight " + wrong, ARGUMENT, () -> coder.setWeight('a', wrong));
                same("left", coder.weightOf('a'), 1);
            }
        });
    }

    private static void addSymbol() {
        section("Promise 3");
        says("Appends a symbol to the draft.", () -> {
            MessageCoder coder = new MessageCoder();
            coder.addSymbol('h');
            coder.addSymbol('a');
            coder.addSymbol('h');
            same("draft", draftOf(coder), "hah");
        });
        says("- `symbol`: the symbol, 'a' to 'h'", () ->
            answersSymbols(new MessageCoder(), MessageCoder::addSymbol, 1, 2, 3, 4, 5, 6, 7, 8));
        says("Returns the length of the draft afterwards.", () -> {
            MessageCoder coder = new MessageCoder();
            for (int length = 1; length <= 16; length++) {
                same("length", coder.addSymbol('b'), length);
            }
        });
        says("Throws `IllegalArgumentException` if there is no such symbol", () -> {
            refusesSymbols(MessageCoder::addSymbol);
            MessageCoder full = new MessageCoder();
            draft(full, LONGEST);
            fails("full", ARGUMENT, () -> full.addSymbol('i'));
        });
        says("Throws `IllegalStateException` if the draft has 16 symbols", () -> {
            MessageCoder coder = new MessageCoder();
            draft(coder, LONGEST);
            fails("seventeenth", STATE, () -> coder.addSymbol('a'));
            same("left", draftOf(coder), LONGEST);
            coder.undo();
            same("sixteenth after an undo", coder.addSymbol('b'), 16);
            fails("seventeenth again", STATE, () -> coder.addSymbol('b'));
            coder.clearDraft();
            same("first after a clear", coder.addSymbol('c'), 1);
        });
    }

    private static void clearDraft() {
        section("Promise 4");
        says("Removes all symbols of the draft.", () -> {
            MessageCoder coder = new MessageCoder();
            draft(coder, LONGEST);
            coder.clearDraft();
            same("draft", coder.draftLength(), 0);
            fails("nothing to post", STATE, () -> coder.post(1));
            draft(coder, "h");
            same("new draft", draftOf(coder), "h");
        });
        says("Returns the length of the draft before.", () -> {
            MessageCoder coder = new MessageCoder();
            same("empty", coder.clearDraft(), 0);
            coder.addSymbol('a');
            same("one", coder.clearDraft(), 1);
            draft(coder, LONGEST);
            same("full", coder.clearDraft(), 16);
            same("empty again", coder.clearDraft(), 0);
        });
    }

    private static void post() {
        section("Promise 5");
        says("Posts the draft as a message.", () -> {
            MessageCoder coder = new MessageCoder();
            post(coder, "a", 1);
            post(coder, LONGEST, 1);
            same("shortest", textOf(coder, 0), "a");
            same("longest", textOf(coder, 1), LONGEST);
        });
        says(ANY_PRIORITY, () -> {
            MessageCoder coder = new MessageCoder();
            for (int priority = 1; priority <= 5; priority++) {
                same("priority", coder.priorityOf(post(coder, "a", priority)), priority);
            }
        });
        says("Returns the id of the message.", () -> {
            MessageCoder coder = new MessageCoder();
            same("first", post(coder, "a", 5), 0);
            same("second", post(coder, "a", 1), 1);
            coder.drop(1);
            coder.drop(0);
            same("after drops", post(coder, "a", 5), 2);
        });
        says(NO_PRIORITY, () -> {
            for (int wrong : NO_PRIORITIES) {
                MessageCoder coder = new MessageCoder();
                fails("empty draft, priority " + wrong, ARGUMENT, () -> coder.post(wrong));
                coder.addSymbol('a');
                fails("priority " + wrong, ARGUMENT, () -> coder.post(wrong));
                same("left", coder.draftLength() + coder.messageCount(), 1);
            }
        });
        says("Throws `IllegalStateException` if the draft is empty", () -> {
            MessageCoder coder = new MessageCoder();
            fails("initially", STATE, () -> coder.post(1));
            post(coder, "a", 1);
            fails("just posted", STATE, () -> coder.post(5));
            same("left", coder.messageCount(), 1);
        });
        says("or 8 messages are in the queue", () -> {
            MessageCoder coder = withFullQueue();
            fails("empty draft too", STATE, () -> coder.post(1));
            coder.addSymbol('b');
            fails("ninth", STATE, () -> coder.post(1));
            same("draft left", draftOf(coder), "b");
            coder.drop(0);
            same("eighth after a drop", coder.post(1), 8);
            coder.undo();
            coder.undo();
            fails("ninth after undos", STATE, () -> coder.post(1));
            coder.send();
            same("eighth after a sending", coder.post(1), 8);
        });
    }

    private static void drop() {
        section("Promise 6");
        says("Removes a message from the queue.", () -> {
            String[] due = {"3 8 7 1 6 5", "4 8 7 1 6 5", "4 3 7 1 6 5", "4 3 8 1 6 5", "4 3 8 7 6 5", "4 3 8 7 1 5",
                "4 3 8 7 1 6"};
            for (int rank = 0; rank < 7; rank++) {
                MessageCoder coder = scattered();
                coder.drop(coder.messageAt(rank));
                same("dropped rank " + rank, queueOf(coder), due[rank]);
                for (int left = 0; left < coder.messageCount(); left++) {
                    int id = coder.messageAt(left);
                    same("others as before", textOf(coder, id) + coder.priorityOf(id), scatteredText(id) + (1 + id % 5));
                }
            }
        });
        says(ANY_ID, () -> answersQueued(MessageCoder::drop, id -> 6));
        says("Returns the number of messages in the queue afterwards.", () -> {
            MessageCoder coder = withFullQueue();
            for (int id = 0; id < 8; id++) {
                same("left", coder.drop(id), 7 - id);
            }
        });
        says(GONE_ID, () -> {
            refusesGone(MessageCoder::drop);
            MessageCoder coder = withMessage("a");
            coder.drop(0);
            fails("a second time", ELEMENT, () -> coder.drop(0));
        });
    }

    private static void setPriority() {
        section("Promise 7");
        says("Sets the priority of a message.", () -> {
            for (int id : QUEUED) {
                MessageCoder coder = scattered();
                coder.setPriority(id, 1);
                same("lowest", coder.priorityOf(id), 1);
                coder.setPriority(id, 5);
                same("highest", coder.priorityOf(id), 5);
                for (int other : QUEUED) {
                    same("others", other == id || coder.priorityOf(other) == 1 + other % 5, true);
                }
            }
        });
        says(ANY_ID, () -> {
            answersQueued((coder, id) -> coder.setPriority(id, 1), id -> new int[] {0, 5, 0, 5, 5, 6, 6, 6, 6}[id]);
            answersQueued((coder, id) -> coder.setPriority(id, 5), id -> id <= 4 ? 0 : 1);
        });
        says(ANY_PRIORITY, () -> {
            MessageCoder coder = withMessage("a");
            for (int priority = 1; priority <= 5; priority++) {
                coder.setPriority(0, priority);
                same("priority", coder.priorityOf(0), priority);
            }
        });
        says("Returns the rank of the message in the queue afterwards.", () -> {
            MessageCoder coder = withFullQueue();
            same("no effect, first", coder.setPriority(0, 3), 0);
            same("no effect, last", coder.setPriority(7, 3), 7);
            same("to the front", coder.setPriority(7, 4), 0);
            same("to the end", coder.setPriority(0, 2), 7);
            same("behind the lower id", coder.setPriority(6, 2), 7);
            same("before the greater id", coder.setPriority(5, 4), 0);
            same("rank", coder.messageAt(0), 5);
        });
        says(GONE_ID, () -> refusesGone((coder, id) -> coder.setPriority(id, 3)));
        says(NO_PRIORITY, () -> {
            MessageCoder coder = scattered();
            for (int wrong : NO_PRIORITIES) {
                fails("priority " + wrong, ARGUMENT, () -> coder.setPriority(4, wrong));
                fails("no message, priority " + wrong, ELEMENT, () -> coder.setPriority(9, wrong));
                same("left", coder.priorityOf(4), 5);
            }
        });
    }

    private static void learn() {
        section("Promise 8");
        says("Adds to the weight of each symbol how often a message has it", () -> {
            MessageCoder coder = withMessage("aahhhbhh");
            coder.learn(0);
            answersSymbols(coder, MessageCoder::weightOf, 3, 2, 1, 1, 1, 1, 1, 6);
            same("the codes follow", coder.codeLength('h'), 1);
            same("the message stays", textOf(coder, 0), "aahhhbhh");
        });
        says("up to 99.", () -> {
            MessageCoder coder = withMessage("aaaaaaaaaaaaaaaa");
            int[][] weights = {{82, 98}, {83, 99}, {84, 99}, {98, 99}, {99, 99}};
            for (int[] weight : weights) {
                coder.setWeight('a', weight[0]);
                same("sum", coder.learn(0), weight[1] + 7);
                same("weight after " + weight[0], coder.weightOf('a'), weight[1]);
            }
            MessageCoder each = withMessage(LONGEST);
            weigh(each, 97, 98, 96, 99, 1, 97, 98, 99);
            each.learn(0);
            answersSymbols(each, MessageCoder::weightOf, 99, 99, 98, 99, 3, 99, 99, 99);
        });
        says(ANY_ID, () -> answersQueued(MessageCoder::learn, id -> 8 + id + 1));
        says("Returns the sum of all weights afterwards.", () -> {
            MessageCoder coder = withMessage("h");
            same("least", coder.learn(0), 9);
            weigh(coder, 99, 99, 99, 99, 99, 99, 99, 98);
            same("greatest", coder.learn(0), 792);
            same("no effect", coder.learn(0), 792);
        });
        says(GONE_ID, () -> refusesGone(MessageCoder::learn));
    }

    private static void send() {
        section("Promise 9");
        says("Sends the first message of the queue.", () -> {
            MessageCoder coder = scattered();
            int[] order = {4, 3, 8, 7, 1, 6, 5};
            for (int i = 0; i < order.length; i++) {
                same("first", coder.messageAt(0), order[i]);
                coder.send();
                int sent = order[i];
                fails("sent", ELEMENT, () -> coder.lengthOf(sent));
                coder.receive();
                same("text", receivedOf(coder), scatteredText(sent));
            }
        });
        says("Returns the number of bits in the frame.", () -> {
            MessageCoder shortest = withLongCodes();
            post(shortest, "a", 1);
            same("least", shortest.send(), 7);
            MessageCoder longest = withLongCodes();
            post(longest, "hhhhhhhhhhhhhhhh", 1);
            same("greatest", longest.send(), 196);
            MessageCoder coder = withLongCodes();
            for (String text : new String[] {"d", "e", "h", "dd", "de", "aaaa", "aaaaa"}) {
                post(coder, text, 1);
                int bits = coder.bitCount(coder.messageAt(0));
                same("of " + text, coder.send(), (bits + 3) / 4 * 7);
            }
        });
        says("Throws `NoSuchElementException` if the queue is empty", () -> {
            MessageCoder coder = new MessageCoder();
            fails("initially", ELEMENT, coder::send);
            coder.addSymbol('a');
            fails("a draft is no message", ELEMENT, coder::send);
            coder.post(1);
            coder.send();
            fails("the only one is sent", ELEMENT, coder::send);
            same("frame left", coder.frameLength() + coder.sentTotal(), 8);
        });
    }

    private static void flip() {
        section("Promise 10");
        says("Flips a bit of the frame.", () -> {
            MessageCoder coder = withFrame("hh");
            coder.flip(3);
            same("one to zero", frameOf(coder), "11101110111100");
            coder.flip(12);
            same("zero to one", frameOf(coder), "11101110111110");
            coder.flip(3);
            same("back", frameOf(coder), "11111110111110");
        });
        says("- `bit`: the index of the bit, starting at 0", () -> {
            MessageCoder coder = withFrame("hh");
            coder.flip(0);
            same("first", frameOf(coder), "01111110111100");
            coder.flip(13);
            same("last", frameOf(coder), "01111110111101");
            MessageCoder longest = withLongestFrame();
            same("last of the longest", longest.frameBit(195), 0);
            longest.flip(195);
            same("last of the longest, flipped", longest.frameBit(195), 1);
        });
        says("Returns the number of damaged blocks afterwards.", () -> {
            MessageCoder coder = withLongestFrame();
            for (int block = 0; block < 28; block++) {
                same("one more", coder.flip(block * 7 + 6), block + 1);
            }
            same("second bit of a damaged one", coder.flip(0), 28);
            same("third bit makes another block", coder.flip(6) + coder.flip(1) + coder.flip(2), 28 + 28 + 27);
            MessageCoder back = withFrame("a");
            same("damaged", back.flip(6), 1);
            same("mended", back.flip(6), 0);
        });
        says("Throws `IndexOutOfBoundsException` if there is no frame", () -> {
            MessageCoder coder = withMessage("a");
            refusesBeyond(0, INDEX, coder::flip);
            coder.send();
            coder.flip(0);
            coder.receive();
            refusesBeyond(0, INDEX, coder::flip);
            coder.undo();
            same("the frame is back", coder.flip(0), 0);
        });
        says("or it has no such bit", () -> {
            MessageCoder coder = withFrame("hh");
            refusesBeyond(14, INDEX, coder::flip);
            same("frame left", frameOf(coder), "11111110111100");
            MessageCoder longest = withLongestFrame();
            refusesBeyond(196, INDEX, longest::flip);
            MessageCoder shorter = withFrame(LONGEST);
            post(shorter, "a", 1);
            shorter.send();
            refusesBeyond(7, INDEX, shorter::flip);
        });
    }

    private static void receive() {
        section("Promise 11");
        says("Receives the frame.", () -> {
            MessageCoder coder = withFrame("face");
            coder.receive();
            same("text", receivedOf(coder), "face");
            same("frame", coder.hasFrame(), false);
            same("totals", coder.receivedTotal() * 10 + coder.failedTotal(), 10);
        });
        says("Returns the number of damaged blocks that the frame had.", () -> {
            same("none", withFrame("a").receive(), 0);
            MessageCoder all = withLongestFrame();
            for (int block = 0; block < 28; block++) {
                all.flip(block * 7);
            }
            same("all", all.receive(), 28);
            MessageCoder two = withFrame("hh");
            flipAll(two, 0, 2);
            same("one, with two flips", two.receive(), 1);
            MessageCoder seven = withFrame("hh");
            flipAll(seven, 0, 7);
            same("none, with seven flips", seven.receive(), 0);
        });
        says("Throws `NoSuchElementException` if there is no frame", () -> {
            MessageCoder coder = withMessage("a");
            fails("not sent", ELEMENT, coder::receive);
            coder.send();
            coder.receive();
            fails("received", ELEMENT, coder::receive);
            same("text left", receivedOf(coder) + coder.receivedTotal(), "a1");
            coder.undo();
            same("the frame is back", coder.receive(), 0);
        });
    }
}
