/** A test for each sentence of promises 56 to 63: programs, undo, and the saved copy. */
final class ProgramsBoundaries extends Boundaries {
    private static final String SIXTY = "clear;clear;clear;clear;clear;clear;clear;clear;clear;drop 0";

    static void all() {
        append();
        run();
        failingRuns();
        errorPosition();
        failedCommand();
        undoableCount();
        undo();
        save();
        restore();
    }

    private static void append() {
        section("Promise 56");
        says("Appends a character to the input buffer.", () -> {
            MessageCoder coder = new MessageCoder();
            type(coder, "draft abc");
            same("nothing happens before run", coder.draftLength(), 0);
            coder.run();
            same("draft", draftOf(coder), "abc");
        });
        says("- `character`: the character", () -> {
            MessageCoder coder = new MessageCoder();
            int length = 0;
            for (char character = ' '; character < ' ' + 60; character++) {
                same("character " + character, coder.append(character), ++length);
            }
            MessageCoder other = new MessageCoder();
            length = 0;
            for (char character = ' ' + 60; character <= '~'; character++) {
                same("character " + character, other.append(character), ++length);
            }
        });
        says("Returns the number of characters in the buffer.", () -> {
            MessageCoder coder = withMessage("a");
            for (int n = 1; n <= 60; n++) {
                same("length", coder.append(SIXTY.charAt(n - 1)), n);
            }
            coder.run();
            same("after a run", coder.append('x'), 1);
            fails("malformed", ARGUMENT, coder::run);
            same("after a malformed one", coder.append('x'), 1);
        });
        says("Throws `IllegalArgumentException` if the character is not in the range from ' ' to '~'", () -> {
            MessageCoder coder = new MessageCoder();
            for (int wrong : new int[] {0, 1, 9, 10, 13, 31, 127, 128, 160, 255, 256, 0x8000, 0xffff}) {
                fails("character " + wrong, ARGUMENT, () -> coder.append((char) wrong));
            }
            same("nothing appended", coder.append(' '), 1);
            type(coder, SIXTY.substring(1));
            fails("full", ARGUMENT, () -> coder.append((char) 127));
            fails("full too", ARGUMENT, () -> coder.append((char) 31));
        });
        says("Throws `IllegalStateException` if the buffer contains 60 characters", () -> {
            MessageCoder coder = withMessage("a");
            type(coder, SIXTY);
            fails("a letter", STATE, () -> coder.append('a'));
            fails("lowest character", STATE, () -> coder.append(' '));
            fails("highest character", STATE, () -> coder.append('~'));
            same("the sixty are left", coder.run(), 10);
            same("room again", coder.append('a'), 1);
        });
    }

    private static void run() {
        section("Promise 57");
        says("Parses the contents of the input buffer as a program and executes it.", () -> {
            MessageCoder coder = new MessageCoder();
            run(coder, "weight h=9;draft ha;post 5;draft c;post 1;send;flip 0;flip 0");
            same("frame", frameOf(coder), "01001010000000");
            run(coder, "receive;hurry 1 5;learn 1;draft d;clear;drop 1");
            same("text", receivedOf(coder) + coder.messageCount() + coder.weightOf('c') + coder.draftLength(), "ha020");
        });
        says("Either all commands are executed or none.", () -> {
            String[] failing = {"weight a=9;drop 0", "draft ab;drop 0", "clear;drop 0", "post 1;drop 0",
                "drop 1;drop 1", "hurry 1 5;drop 0", "learn 1;drop 0", "send;drop 1", "flip 0;flip 14",
                "receive;receive", "weight a=9;draft abcdefghabcdefgh;send", "clear;draft abcdefghabcdefgha"};
            for (String program : failing) {
                MessageCoder coder = withFrame("hh");
                post(coder, "ab", 2);
                draft(coder, "c");
                String before = stateOf(coder);
                fails(coder, program, STATE);
                same("none of " + program, stateOf(coder), before);
                same("next id", coder.post(1), 2);
            }
        });
        says("The buffer is empty afterwards, even if an exception is thrown.", () -> {
            MessageCoder coder = new MessageCoder();
            run(coder, "clear");
            same("after a program", coder.append('c'), 1);
            type(coder, "lear;");
            fails("malformed", ARGUMENT, coder::run);
            same("after a malformed one", coder.append('s'), 1);
            type(coder, "end");
            fails("failing", STATE, coder::run);
            same("after a failing one", coder.append('a'), 1);
            type(coder, SIXTY.substring(1));
            fails("sixty characters", ARGUMENT, coder::run);
            fails("nothing is left to run", ARGUMENT, coder::run);
            same("after an empty one", coder.append('a'), 1);
        });
        says("Returns the number of commands.", () -> {
            MessageCoder coder = withFullQueue();
            same("one", run(coder, "draft abcdefghabcdefgh"), 1);
            same("two", run(coder, "clear;draft abc"), 2);
            same("sixty characters", run(coder, SIXTY), 10);
            coder.undo();
            same("most", run(coder, "send;send;send;send;send;send;send;send;clear;clear;clear"), 11);
        });
    }

    private static void failingRuns() {
        says("Throws `IllegalArgumentException` if the program is malformed; the error position is stored", () -> {
            MessageCoder coder = withMessage("a");
            fails(coder, "drop 0;drop x", ARGUMENT);
            same("stored", coder.errorPosition(), 12);
            same("nothing done", coder.messageCount(), 1);
            fails(coder, "drop 1;drop", ARGUMENT);
            same("stored, though it would fail too", coder.errorPosition(), 11);
            fails("no failed command", ELEMENT, coder::failedCommand);
            fails(coder, "", ARGUMENT);
            same("empty program", coder.errorPosition(), 0);
        });
        says("Throws `IllegalStateException` if the method of a command throws an exception", () -> {
            MessageCoder coder = withMessage("a");
            for (String program : new String[] {"weight a=0", "weight a=100", "weight h=999", "draft abcdefghabcdefgha",
                "post 1", "draft a;post 0", "draft a;post 6", "draft a;post 9", "drop 1", "drop 999", "hurry 1 1",
                "hurry 0 0", "hurry 0 6", "learn 1", "send;send", "flip 0", "send;flip 7", "receive"}) {
                fails(coder, program, STATE);
            }
            MessageCoder full = withFullQueue();
            fails(full, "draft a;post 1", STATE);
            same("empty draft left", full.draftLength(), 0);
            same("possible after a drop", run(full, "draft a;drop 0;post 1"), 3);
        });
        says("the index of this command, starting at 0, is stored", () -> {
            MessageCoder coder = withMessage("a");
            fails(coder, "drop 1;send", STATE);
            same("first", coder.failedCommand(), 0);
            fails(coder, "draft ab;draft abcdefgh;draft abcdefgh;drop 9", STATE);
            same("third, by its seventh symbol", coder.failedCommand(), 2);
            fails(coder, "clear;clear;clear;clear;clear;clear;clear;clear;clear;drop 7", STATE);
            same("tenth", coder.failedCommand(), 9);
            fails("no error position", ELEMENT, coder::errorPosition);
        });
    }

    private static void errorPosition() {
        section("Promise 58");
        says("Returns the stored error position. Returns the error position of the latest malformed program.", () -> {
            MessageCoder coder = new MessageCoder();
            fails(coder, "clear;clear;clear;clear;clear;clear;clear;clear;clear;clear;", ARGUMENT);
            same("greatest", coder.errorPosition(), 60);
            fails(coder, "x", ARGUMENT);
            same("least", coder.errorPosition(), 0);
            fails(coder, "drop", ARGUMENT);
            same("later", coder.errorPosition(), 4);
            run(coder, "clear");
            fails(coder, "clear;drop 0", STATE);
            coder.save();
            coder.restore();
            same("still", coder.errorPosition(), 4);
        });
        says("Throws `NoSuchElementException` if no program was malformed so far", () -> {
            MessageCoder coder = new MessageCoder();
            fails("new", ELEMENT, coder::errorPosition);
            run(coder, "clear");
            fails("after a program", ELEMENT, coder::errorPosition);
            fails(coder, "drop 0", STATE);
            fails("after a failing program", ELEMENT, coder::errorPosition);
        });
    }

    private static void failedCommand() {
        section("Promise 59");
        says("Returns the stored index of a failed command. Returns the index of the latest command that failed.", () -> {
            MessageCoder coder = withFullQueue();
            fails(coder, "send;send;send;send;send;send;send;send;clear;clear;send", STATE);
            same("greatest", coder.failedCommand(), 10);
            fails(coder, "receive", STATE);
            same("least", coder.failedCommand(), 0);
            fails(coder, "clear;receive;receive", STATE);
            same("later", coder.failedCommand(), 1);
            run(coder, "clear");
            fails(coder, "clear;clear;clear;x", ARGUMENT);
            fails("a call that fails is no command", ELEMENT, coder::receive);
            coder.save();
            coder.restore();
            same("still", coder.failedCommand(), 1);
        });
        says("Throws `NoSuchElementException` if no command failed so far", () -> {
            MessageCoder coder = new MessageCoder();
            fails("new", ELEMENT, coder::failedCommand);
            fails(coder, "drop 0;x", ARGUMENT);
            fails("after a malformed program", ELEMENT, coder::failedCommand);
            run(coder, "clear");
            fails("after a program", ELEMENT, coder::failedCommand);
            fails("refused", ELEMENT, () -> coder.drop(0));
            fails("after a refused call", ELEMENT, coder::failedCommand);
        });
    }

    // ---- Undo ----

    private static void undoableCount() {
        section("Promise 60");
        says("Returns the number of changes that can be undone.", () -> {
            MessageCoder coder = new MessageCoder();
            run(coder, "draft abcdefgh;post 1;send;flip 0;receive");
            same("a program is one", coder.undoableCount(), 1);
            draft(coder, "ab");
            same("three", coder.undoableCount(), 3);
            coder.undo();
            same("two", coder.undoableCount(), 2);
            coder.save();
            coder.restore();
            same("none after a restore", coder.undoableCount(), 0);
        });
        says("Returns the number, 0 to 8.", () -> {
            MessageCoder coder = new MessageCoder();
            for (int changes = 0; changes < 30; changes++) {
                same("after " + changes, coder.undoableCount(), Math.min(changes, 8));
                coder.clearDraft();
            }
            for (int left = 7; left >= 0; left--) {
                coder.undo();
                same("left", coder.undoableCount(), left);
            }
        });
    }

    private static void undo() {
        section("Promise 61");
        says("Undoes the latest change that has not been undone.", () -> {
            MessageCoder coder = new MessageCoder();
            draft(coder, "abc");
            coder.undo();
            same("latest", draftOf(coder), "ab");
            coder.undo();
            same("the one before", draftOf(coder), "a");
            coder.addSymbol('h');
            coder.undo();
            same("a new one", draftOf(coder), "a");
            coder.undo();
            same("the first", draftOf(coder), "");
        });
        says("Returns the number of changes that can still be undone.", () -> {
            MessageCoder coder = new MessageCoder();
            coder.addSymbol('a');
            same("least", coder.undo(), 0);
            for (int n = 0; n < 12; n++) {
                coder.addSymbol('a');
            }
            for (int left = 7; left >= 0; left--) {
                same("left", coder.undo(), left);
            }
            same("four symbols stay", coder.draftLength(), 4);
        });
        says("Throws `IllegalStateException` if no change can be undone", () -> {
            MessageCoder coder = new MessageCoder();
            fails("new", STATE, coder::undo);
            coder.addSymbol('a');
            coder.undo();
            fails("all undone", STATE, coder::undo);
            for (int n = 0; n < 9; n++) {
                coder.addSymbol('a');
            }
            for (int n = 0; n < 8; n++) {
                coder.undo();
            }
            fails("the ninth", STATE, coder::undo);
            same("left", coder.draftLength(), 1);
            fails(coder, "clear;clea", ARGUMENT);
            fails(coder, "clear;drop 0", STATE);
            fails("no change since", STATE, coder::undo);
        });
    }

    // ---- Saved copy ----

    /** What save must copy: weights, draft, queue with the next id, frame, received text and totals. */
    private static MessageCoder withEverything() {
        MessageCoder coder = withFrame("hh");
        flipAll(coder, 0, 2);
        coder.receive();
        coder.setWeight('h', 40);
        post(coder, "hh", 5);
        post(coder, "ab", 2);
        coder.send();
        coder.flip(3);
        draft(coder, "cd");
        return coder;
    }

    /** Changes everything that changes can change. */
    private static void changeAll(MessageCoder coder) {
        coder.receive();
        weigh(coder, 9, 8, 7, 6, 5, 4, 3, 2);
        coder.setPriority(2, 5);
        coder.post(5);
        draft(coder, "gfe");
        post(coder, "h", 1);
        coder.drop(2);
        coder.send();
        coder.flip(1);
        coder.clearDraft();
        coder.addSymbol('b');
    }

    private static void save() {
        section("Promise 62");
        says("Saves a copy of everything that changes can change", () -> {
            MessageCoder coder = withEverything();
            String before = stateOf(coder);
            coder.save();
            same("saving changes nothing", stateOf(coder), before);
            changeAll(coder);
            same("all changed", stateOf(coder).equals(before), false);
            coder.restore();
            same("all back", stateOf(coder), before);
            same("next id", coder.post(1), 3);
            coder.undo();
            weigh(coder, 9, 8, 7, 6, 5, 4, 3, 2);
            coder.receive();
            same("the frame's own codes", receivedOf(coder), "hh");
        });
        says("replacing an earlier copy.", () -> {
            MessageCoder coder = withMessage(LONGEST);
            coder.save();
            coder.drop(0);
            coder.save();
            post(coder, "b", 1);
            same("the later copy", coder.restore(), 0);
            same("nothing of the earlier one", coder.messageCount(), 0);
            same("its next id", post(coder, "h", 1), 1);
        });
        says("Returns the number of messages in the queue.", () -> {
            MessageCoder coder = new MessageCoder();
            for (int n = 0; n < 8; n++) {
                same("messages", coder.save(), n);
                post(coder, "a", 1);
            }
            same("most", coder.save(), 8);
        });
    }

    private static void restore() {
        section("Promise 63");
        says("Restores the saved copy, which stays available.", () -> {
            MessageCoder coder = withEverything();
            String before = stateOf(coder);
            coder.save();
            for (int n = 0; n < 3; n++) {
                changeAll(coder);
                coder.restore();
                same("restored", stateOf(coder), before);
            }
            coder.restore();
            same("restored at once", stateOf(coder), before);
        });
        says("No changes can be undone afterwards.", () -> {
            MessageCoder coder = new MessageCoder();
            draft(coder, "abcdefgh");
            coder.save();
            same("not by save", coder.undoableCount(), 8);
            coder.restore();
            same("by restore", coder.undoableCount(), 0);
            fails("undo", STATE, coder::undo);
            coder.addSymbol('a');
            same("a later change alone", coder.undo(), 0);
            same("draft", draftOf(coder), "abcdefgh");
            fails("undo again", STATE, coder::undo);
        });
        says("Returns the number of messages in the queue.", () -> {
            MessageCoder coder = new MessageCoder();
            coder.save();
            post(coder, "a", 1);
            same("none", coder.restore(), 0);
            for (int n = 1; n <= 8; n++) {
                post(coder, "a", 1);
            }
            coder.save();
            coder.send();
            same("most", coder.restore(), 8);
        });
        says("Throws `IllegalStateException` if there is no saved copy", () -> {
            MessageCoder coder = withMessage("a");
            fails("none", STATE, coder::restore);
            same("left", coder.messageCount() + coder.undoableCount(), 3);
            coder.save();
            coder.undo();
            coder.undo();
            same("undo keeps it", coder.restore(), 1);
            same("another object has none", Check.outcome(new MessageCoder()::restore), "throws IllegalStateException");
        });
    }
}
