import java.util.List;
import java.util.function.Function;
import java.util.function.Supplier;

/** A test for each sentence about undo and about errors. */
final class UndoBoundaries extends Boundaries {
    /** A call that the document refuses, on a coder that it is refused on. */
    private record Refused(String name, Supplier<MessageCoder> coder, Class<? extends RuntimeException> due,
            Function<MessageCoder, Object> call) {
    }

    static void all() {
        changes();
        upToEight();
        leftAlone();
        errors();
    }

    // ---- Undo ----

    private static void counts(String name, MessageCoder coder, Function<MessageCoder, Object> call) {
        int before = coder.undoableCount();
        String whole = wholeOf(coder);
        call.apply(coder);
        same("count after " + name, coder.undoableCount(), before + 1);
        same("left after undoing " + name, coder.undo(), before);
        same("all after undoing " + name, wholeOf(coder), whole);
    }

    private static MessageCoder drafted(String symbols) {
        MessageCoder coder = new MessageCoder();
        draft(coder, symbols);
        return coder;
    }

    private static void isNoChange(String name, MessageCoder coder, Check.Call call) {
        int before = coder.undoableCount();
        call.answer();
        same("count after " + name, coder.undoableCount(), before);
    }

    private static void changes() {
        section("Undo");
        says("The calls of the methods to which commands correspond, and of run, that return normally are changes", () -> {
            counts("setWeight", new MessageCoder(), coder -> coder.setWeight('h', 9));
            counts("addSymbol", new MessageCoder(), coder -> coder.addSymbol('a'));
            counts("clearDraft", drafted("h"), MessageCoder::clearDraft);
            counts("post", drafted("h"), coder -> coder.post(2));
            counts("drop", withMessage("ab"), coder -> coder.drop(0));
            counts("setPriority", withMessage("ab"), coder -> coder.setPriority(0, 5));
            counts("learn", withMessage("ab"), coder -> coder.learn(0));
            counts("send", withMessage("ab"), MessageCoder::send);
            MessageCoder replacing = withFrame("h");
            post(replacing, "ca", 1);
            counts("send over an earlier frame", replacing, MessageCoder::send);
            counts("flip", withFrame("a"), coder -> coder.flip(0));
            counts("receive", withFrame("a"), MessageCoder::receive);
            MessageCoder running = withFrame("a");
            type(running, "receive;draft abc;post 1;weight g=70;draft h");
            counts("run", running, MessageCoder::run);
        });
        says("even if they have no effect.", () -> {
            counts("setWeight", new MessageCoder(), coder -> coder.setWeight('a', 1));
            counts("clearDraft", new MessageCoder(), MessageCoder::clearDraft);
            counts("setPriority", withMessage("ab"), coder -> coder.setPriority(0, 3));
            MessageCoder learned = withMessage("a");
            learned.setWeight('a', 99);
            counts("learn", learned, coder -> coder.learn(0));
            MessageCoder running = new MessageCoder();
            type(running, "clear;clear");
            counts("run", running, MessageCoder::run);
        });
        says("are changes", () -> {
            MessageCoder coder = withFrame("ab");
            post(coder, "cab", 2);
            for (Check.Call call : otherCalls(coder)) {
                isNoChange("a call that is no change", coder, call);
            }
            isNoChange("a failing drop", coder, () -> Check.outcome(() -> coder.drop(9)));
            type(coder, "clear;drop 9");
            isNoChange("a failing run", coder, () -> Check.outcome(coder::run));
            type(coder, "clear;drop");
            isNoChange("a malformed run", coder, () -> Check.outcome(coder::run));
        });
    }

    private static List<Check.Call> otherCalls(MessageCoder coder) {
        return List.of(() -> wholeOf(coder), coder::save, () -> coder.append(' '), () -> coder.formatMessage(1),
                () -> coder.formatCode('a'), coder::isConsistent, coder::isIntact, coder::cost, coder::costByRanges,
                () -> coder.checksum(1), () -> coder.checksumByTable(1), () -> coder.commonLength(1, 1),
                () -> coder.areEqual(1, 1), () -> coder.syndrome(0), () -> coder.correctedBits(0),
                () -> coder.correctedBitsByDistance(0), coder::damagedBlocks, coder::meanLength);
    }

    private static void upToEight() {
        says("Up to 8 changes can be undone, the latest change first.", () -> {
            for (int changes = 1; changes <= 30; changes++) {
                checkChanges(changes);
            }
            MessageCoder coder = weighedUpTo(20);
            for (int weight = 19; weight >= 15; weight--) {
                coder.undo();
                same("weight", coder.weightOf('a'), weight);
            }
            for (int weight = 50; weight < 53; weight++) {
                coder.setWeight('a', weight);
            }
            for (int weight : new int[] {51, 50, 15, 14, 13, 12}) {
                coder.undo();
                same("weight after more changes", coder.weightOf('a'), weight);
            }
            fails("8 - 5 + 3 are undone", STATE, coder::undo);
        });
    }

    private static MessageCoder weighedUpTo(int weight) {
        MessageCoder coder = new MessageCoder();
        for (int next = 2; next <= weight; next++) {
            coder.setWeight('a', next);
        }
        return coder;
    }

    private static void checkChanges(int changes) {
        MessageCoder coder = weighedUpTo(1 + changes);
        int undoable = Math.min(changes, 8);
        same("undoable of " + changes, coder.undoableCount(), undoable);
        for (int undone = 1; undone <= undoable; undone++) {
            same("left", coder.undo(), undoable - undone);
            same("weight", coder.weightOf('a'), 1 + changes - undone);
        }
        fails("one more", STATE, coder::undo);
        same("weight left", coder.weightOf('a'), 1 + changes - undoable);
    }

    /** Four changes, and between them each thing that undo must leave alone. */
    private static MessageCoder withTraces() {
        MessageCoder coder = new MessageCoder();
        coder.setWeight('a', 9);
        coder.save();
        coder.setWeight('a', 3);
        fails(coder, "clear;clea", ARGUMENT);
        fails(coder, "clear;drop 1", STATE);
        coder.setWeight('a', 4);
        coder.formatCode('a');
        type(coder, "clear;drop 2");
        fails("second one", STATE, coder::run);
        fails(coder, "claer", ARGUMENT);
        coder.formatCode('h');
        run(coder, "clear");
        type(coder, "clea");
        return coder;
    }

    private static void leftAlone() {
        says("Undo does not affect the input buffer", () -> {
            MessageCoder coder = withTraces();
            undoAll(coder);
            coder.append('r');
            same("the buffer is a program", coder.run(), 1);
            MessageCoder emptied = new MessageCoder();
            run(emptied, "clear");
            emptied.undo();
            same("what run emptied stays empty", emptied.append('a'), 1);
        });
        says("the error position, the index of the failed command", () -> {
            MessageCoder coder = withTraces();
            undoAll(coder);
            same("error position", coder.errorPosition(), 2);
            same("failed command", coder.failedCommand(), 1);
        });
        says("the formatted line", () -> {
            MessageCoder coder = withTraces();
            undoAll(coder);
            same("line", lineOf(coder, 5), "h=110");
        });
        says("or the saved copy.", () -> {
            MessageCoder coder = withTraces();
            undoAll(coder);
            same("undone beyond the save", coder.weightOf('a'), 1);
            coder.restore();
            same("restored", coder.weightOf('a'), 9);
        });
    }

    private static void undoAll(MessageCoder coder) {
        for (int left = coder.undoableCount(); left > 0; left--) {
            coder.undo();
        }
    }

    // ---- Everything that a coder tells ----

    private static String lineOf(MessageCoder coder) {
        StringBuilder line = new StringBuilder();
        for (int i = 0; !Check.outcome(() -> coder.lineChar(line.length())).startsWith("throws"); i++) {
            line.append(coder.lineChar(i));
        }
        return line.toString();
    }

    /** All that can be asked, but for the error position and the failed command, which a refused run stores. */
    private static String wholeOf(MessageCoder coder) {
        return stateOf(coder) + " " + lineOf(coder) + " " + coder.undoableCount();
    }

    private static String storedIn(MessageCoder coder) {
        return Check.outcome(coder::errorPosition) + " " + Check.outcome(coder::failedCommand);
    }

    // ---- Errors ----

    private static void errors() {
        section("Errors");
        says("A method that throws an exception leaves everything unchanged, unless its description says otherwise.",
                () -> {
            for (Refused refused : refusals()) {
                checkLeft(refused);
            }
        });
        says("If several conditions of a method apply, the exception that is listed first is thrown.", () -> {
            MessageCoder full = full();
            fails("addSymbol", ARGUMENT, () -> full.addSymbol('i'));
            fails("post to a full queue", ARGUMENT, () -> full.post(6));
            fails("append", ARGUMENT, () -> full.append((char) 127));
            MessageCoder empty = new MessageCoder();
            fails("post of an empty draft", ARGUMENT, () -> empty.post(0));
            fails("setPriority", ELEMENT, () -> empty.setPriority(0, 6));
            fails("symbolAt", ELEMENT, () -> empty.symbolAt(0, -1));
            fails("countOf", ELEMENT, () -> empty.countOf(0, 'i'));
            fails("bitAt", ELEMENT, () -> empty.bitAt(0, -1));
            fails(empty, "drop 1;send;sen", ARGUMENT);
            fails("run that would fail stores nothing", ELEMENT, empty::failedCommand);
        });
    }

    /** A coder that has something of everything, and more than eight changes behind it. */
    private static MessageCoder rich() {
        MessageCoder coder = new MessageCoder();
        coder.setWeight('h', 5);
        post(coder, "ab", 2);
        post(coder, "h", 4);
        post(coder, "cad", 2);
        post(coder, "bb", 1);
        coder.send();
        coder.flip(2);
        coder.receive();
        coder.save();
        fails(coder, "sen", ARGUMENT);
        fails(coder, "clear;drop 99", STATE);
        coder.send();
        coder.flip(0);
        coder.flip(1);
        coder.learn(2);
        draft(coder, "gf");
        coder.setPriority(3, 3);
        coder.formatMessage(2);
        return coder;
    }

    /** A coder whose draft, queue and input buffer are full, and that has no frame. */
    private static MessageCoder full() {
        MessageCoder coder = withFullQueue();
        draft(coder, LONGEST);
        type(coder, "clear;clear;clear;clear;clear;clear;clear;clear;clear;clear;");
        return coder;
    }

    private static List<Refused> refusals() {
        Supplier<MessageCoder> rich = UndoBoundaries::rich;
        Supplier<MessageCoder> full = UndoBoundaries::full;
        Supplier<MessageCoder> bare = MessageCoder::new;
        return List.of(
                new Refused("setWeight, symbol", rich, ARGUMENT, coder -> coder.setWeight('i', 9)),
                new Refused("setWeight, weight", rich, ARGUMENT, coder -> coder.setWeight('a', 100)),
                new Refused("addSymbol, symbol", rich, ARGUMENT, coder -> coder.addSymbol('`')),
                new Refused("addSymbol, full", full, STATE, coder -> coder.addSymbol('a')),
                new Refused("post, priority", rich, ARGUMENT, coder -> coder.post(6)),
                new Refused("post, empty", bare, STATE, coder -> coder.post(1)),
                new Refused("post, full", full, STATE, coder -> coder.post(1)),
                new Refused("drop", rich, ELEMENT, coder -> coder.drop(1)),
                new Refused("setPriority, id", rich, ELEMENT, coder -> coder.setPriority(0, 5)),
                new Refused("setPriority, priority", rich, ARGUMENT, coder -> coder.setPriority(3, 6)),
                new Refused("learn", rich, ELEMENT, coder -> coder.learn(4)),
                new Refused("send", bare, ELEMENT, MessageCoder::send),
                new Refused("flip, bit", rich, INDEX, coder -> coder.flip(coder.frameLength())),
                new Refused("flip, frame", full, INDEX, coder -> coder.flip(0)),
                new Refused("receive", full, ELEMENT, MessageCoder::receive),
                new Refused("weightOf", rich, ARGUMENT, coder -> coder.weightOf('i')),
                new Refused("symbolByCode", rich, ELEMENT, coder -> coder.symbolByCode(8)),
                new Refused("draftAt", rich, INDEX, coder -> coder.draftAt(2)),
                new Refused("messageAt", rich, ELEMENT, coder -> coder.messageAt(2)),
                new Refused("bitAt", rich, INDEX, coder -> coder.bitAt(3, 99)),
                new Refused("checksum", rich, ELEMENT, coder -> coder.checksum(0)),
                new Refused("commonLength", rich, ELEMENT, coder -> coder.commonLength(2, 0)),
                new Refused("syndrome", rich, INDEX, coder -> coder.syndrome(99)),
                new Refused("correctedBits", rich, INDEX, coder -> coder.correctedBits(-1)),
                new Refused("isIntact", full, ELEMENT, MessageCoder::isIntact),
                new Refused("receivedAt", rich, INDEX, coder -> coder.receivedAt(1)),
                new Refused("failedShare", bare, ArithmeticException.class, MessageCoder::failedShare),
                new Refused("formatMessage", rich, ELEMENT, coder -> coder.formatMessage(0)),
                new Refused("formatCode", rich, ARGUMENT, coder -> coder.formatCode('i')),
                new Refused("lineChar", rich, INDEX, coder -> coder.lineChar(99)),
                new Refused("append, character", rich, ARGUMENT, coder -> coder.append((char) 10)),
                new Refused("append, full", full, STATE, coder -> coder.append('a')),
                new Refused("run, malformed", full, ARGUMENT, MessageCoder::run),
                new Refused("run, first fails", () -> typed("drop 0;clear"), STATE, MessageCoder::run),
                new Refused("run, last fails", () -> typed("draft a;clear;send;receive;learn 3;weight a=90;drop 3;drop 3"),
                        STATE, MessageCoder::run),
                new Refused("undo", bare, STATE, MessageCoder::undo),
                new Refused("restore", bare, STATE, MessageCoder::restore));
    }

    private static MessageCoder typed(String program) {
        MessageCoder coder = rich();
        type(coder, program);
        return coder;
    }

    /** Looks at a coder of its own in each way, beside a twin on which the call was not made. */
    private static void checkLeft(Refused refused) {
        checkLook(refused, "now", UndoBoundaries::wholeOf);
        checkLook(refused, "after an undo", coder -> Check.outcome(coder::undo) + wholeOf(coder));
        checkLook(refused, "after all undos", coder -> {
            undoAll(coder);
            return wholeOf(coder);
        });
        checkLook(refused, "after a restore", coder -> Check.outcome(coder::restore) + wholeOf(coder));
        checkLook(refused, "next id", coder -> Check.outcome(() -> post(coder, "a", 1)));
        if (refused.name.startsWith("run")) {
            MessageCoder coder = refused.coder.get();
            fails(refused.name, refused.due, () -> refused.call.apply(coder));
            same(refused.name + ": its description says otherwise of the buffer", coder.append('a'), 1);
        } else {
            checkLook(refused, "stored", UndoBoundaries::storedIn);
            checkLook(refused, "buffer", coder -> Check.outcome(() -> coder.append('a')));
        }
    }

    private static void checkLook(Refused refused, String name, Function<MessageCoder, String> look) {
        MessageCoder coder = refused.coder.get();
        fails(refused.name, refused.due, () -> refused.call.apply(coder));
        same(refused.name + ", " + name, look.apply(coder), look.apply(refused.coder.get()));
    }
}
