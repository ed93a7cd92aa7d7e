/** A test for each sentence about commands and their grammar. */
final class CommandsBoundaries extends Boundaries {
    private static final String DIGITS = "0123456789";
    private static final String FIRSTS = "wdcphlsfr";

    /** Beginnings of programs, each with the characters that a valid program can have behind it. */
    private static final String[][] NEXT = {
        {"", FIRSTS},
        {"w", "e"}, {"we", "i"}, {"wei", "g"}, {"weig", "h"}, {"weigh", "t"}, {"weight", " "}, {"weight ", SYMBOLS},
        {"weight a", "="}, {"weight h", "="}, {"weight a=", DIGITS}, {"weight h=0", DIGITS + ";"},
        {"weight a=99", DIGITS + ";"}, {"weight a=100", ";"}, {"weight a=000", ";"},
        {"d", "r"}, {"dr", "ao"}, {"dra", "f"}, {"draf", "t"}, {"draft", " "}, {"draft ", SYMBOLS},
        {"draft a", SYMBOLS + ";"}, {"draft abcdefghabcdefgh", SYMBOLS + ";"},
        {"draft abcdefghabcdefghabcdefgh", SYMBOLS + ";"},
        {"dro", "p"}, {"drop", " "}, {"drop ", DIGITS}, {"drop 0", DIGITS + ";"}, {"drop 00", DIGITS + ";"},
        {"drop 999", ";"},
        {"c", "l"}, {"cl", "e"}, {"cle", "a"}, {"clea", "r"}, {"clear", ";"},
        {"p", "o"}, {"po", "s"}, {"pos", "t"}, {"post", " "}, {"post ", DIGITS}, {"post 0", ";"}, {"post 9", ";"},
        {"h", "u"}, {"hu", "r"}, {"hur", "r"}, {"hurr", "y"}, {"hurry", " "}, {"hurry ", DIGITS},
        {"hurry 1", DIGITS + " "}, {"hurry 12", DIGITS + " "}, {"hurry 123", " "}, {"hurry 1 ", DIGITS},
        {"hurry 123 ", DIGITS}, {"hurry 1 0", ";"}, {"hurry 123 9", ";"},
        {"l", "e"}, {"le", "a"}, {"lea", "r"}, {"lear", "n"}, {"learn", " "}, {"learn ", DIGITS},
        {"learn 1", DIGITS + ";"}, {"learn 12", DIGITS + ";"}, {"learn 123", ";"},
        {"s", "e"}, {"se", "n"}, {"sen", "d"}, {"send", ";"},
        {"f", "l"}, {"fl", "i"}, {"fli", "p"}, {"flip", " "}, {"flip ", DIGITS}, {"flip 1", DIGITS + ";"},
        {"flip 12", DIGITS + ";"}, {"flip 123", ";"},
        {"r", "e"}, {"re", "c"}, {"rec", "e"}, {"rece", "i"}, {"recei", "v"}, {"receiv", "e"}, {"receive", ";"},
        {"send;", FIRSTS}, {"weight a=1;", FIRSTS}, {"draft a;", FIRSTS}, {"hurry 1 1;", FIRSTS},
        {"send;d", "r"}, {"clear;dr", "ao"}, {"draft a;draft ", SYMBOLS}, {"post 1;drop 12", DIGITS + ";"},
        {"send;send", ";"}, {"receive;hurry 999", " "},
        {"clear;clear;clear;clear;clear;clear;clear;clear;clear;clea", "r"},
        {"draft abcdefghabcdefghabcdefghabcdefghabcdefghabcdefghabcd", SYMBOLS + ";"},
    };

    static void all() {
        section("Commands");
        buffer();
        programs();
        commands();
        numbers();
        errorPositions();
    }

    private static int errorPositionOf(String program) {
        MessageCoder coder = new MessageCoder();
        fails(coder, program, ARGUMENT);
        return coder.errorPosition();
    }

    private static void buffer() {
        says("The input buffer holds up to 60 characters.", () -> {
            MessageCoder coder = withMessage("a");
            type(coder, "clear;clear;clear;clear;clear;clear;clear;clear;clear;drop ");
            same("the last one", coder.append('0'), 60);
            fails("one more", STATE, () -> coder.append(';'));
            same("they are a program", coder.run(), 10);
            same("which was carried out", coder.messageCount(), 0);
            same("room again", coder.append('a'), 1);
        });
    }

    private static void programs() {
        says("A program in the input buffer has this grammar, where { x } means zero or more repetitions of x and a "
                + "vertical bar separates alternatives:", () -> {
            MessageCoder coder = new MessageCoder();
            same("no repetition", run(coder, "draft a"), 1);
            same("one repetition", run(coder, "draft ab"), 1);
            same("fifteen more", run(coder, "clear;draft abcdefghabcdefgh"), 2);
            same("draft", draftOf(coder), LONGEST);
        });
        says("program = command { \";\" command }", () -> {
            MessageCoder coder = withFullQueue();
            fails(coder, "", ARGUMENT);
            same("one", run(coder, "clear"), 1);
            same("two", run(coder, "clear;clear"), 2);
            same("eleven", run(coder, "send;send;send;send;send;send;send;send;clear;clear;clear"), 11);
            same("all sent", coder.sentTotal(), 8);
            for (String wrong : new String[] {";", "clear;", ";clear", "clear;;clear", "clear clear", "clear; clear",
                "clear ;clear", " clear", "clear ", "clear,clear", "clearclear"}) {
                fails(coder, wrong, ARGUMENT);
            }
        });
    }

    private static void commands() {
        says("\"weight \" symbol \"=\" number", () -> {
            MessageCoder coder = new MessageCoder();
            run(coder, "weight a=1;weight h=99;weight b=02;weight c=003");
            same("weights", coder.totalWeight(), 1 + 99 + 2 + 3 + 4);
            for (String wrong : new String[] {"weight", "weight a", "weight a=", "weight =1", "weight ab=1", "weight i=1",
                "weight a 1", "weight  a=1", "weight a= 1", "weight a=1000", "weight a=-1", "weighta=1"}) {
                fails(coder, wrong, ARGUMENT);
            }
        });
        says("\"draft \" symbol { symbol }", () -> {
            MessageCoder coder = new MessageCoder();
            run(coder, "draft h;draft abcdefgh;draft gfedcba");
            same("draft", draftOf(coder), "habcdefghgfedcba");
            for (String wrong : new String[] {"draft", "draft ", "draft i", "draft `", "draft A", "draft a b",
                "draft  a", "draft 1", "drafta"}) {
                fails(coder, wrong, ARGUMENT);
            }
        });
        says("\"clear\" | \"post \" digit", () -> {
            MessageCoder coder = new MessageCoder();
            run(coder, "clear;draft a;post 1;draft b;post 5;draft c;clear");
            same("queue", queueOf(coder) + draftOf(coder), "1 0");
            for (String wrong : new String[] {"clear 1", "clears", "post", "post ", "post 12", "post 01", "post x",
                "post  1", "post1", "post -1"}) {
                fails(coder, wrong, ARGUMENT);
            }
        });
        says("\"drop \" number | \"hurry \" number \" \" digit | \"learn \" number", () -> {
            MessageCoder coder = withFullQueue();
            run(coder, "hurry 007 5;hurry 6 1;learn 5;drop 04;drop 3");
            same("queue", queueOf(coder) + ", " + coder.weightOf('a'), "7 0 1 2 5 6, 2");
            for (String wrong : new String[] {"drop", "drop ", "drop 0001", "drop x", "drop -1", "hurry 1", "hurry 1 ",
                "hurry 1 12", "hurry 1  1", "hurry  1 1", "hurry 1;1", "hurry 0001 1", "hurry 11", "learn", "learn ",
                "learn 0001", "learn a"}) {
                fails(coder, wrong, ARGUMENT);
            }
        });
        says("\"send\" | \"flip \" number | \"receive\"", () -> {
            MessageCoder coder = withMessage("hh");
            run(coder, "send;flip 0;flip 07;flip 013;flip 13");
            same("frame", frameOf(coder), "01111111111100");
            run(coder, "receive");
            same("received", receivedOf(coder), "hh");
            for (String wrong : new String[] {"send 1", "sends", "flip", "flip ", "flip 1000", "flip a", "flip 1 ",
                "receive ", "received", "SEND", "Send", "receive;"}) {
                fails(coder, wrong, ARGUMENT);
            }
        });
        says("symbol = \"a\" | \"b\" | \"c\" | \"d\" | \"e\" | \"f\" | \"g\" | \"h\"", () -> {
            for (char sign = ' '; sign <= '~'; sign++) {
                boolean isSymbol = SYMBOLS.indexOf(sign) >= 0;
                MessageCoder coder = new MessageCoder();
                type(coder, "weight " + sign + "=9;draft " + sign);
                same("sign " + sign, Check.outcome(coder::run), isSymbol ? "2" : "throws IllegalArgumentException");
                same("draft of " + sign, draftOf(coder), isSymbol ? "" + sign : "");
            }
        });
    }

    private static void numbers() {
        says("number = digit | digit digit | digit digit digit", () -> {
            for (String weight : new String[] {"1", "9", "01", "10", "99", "001", "009", "099"}) {
                MessageCoder coder = new MessageCoder();
                same("weight " + weight, run(coder, "weight d=" + weight), 1);
                same("weight " + weight, coder.weightOf('d'), Integer.parseInt(weight));
            }
            for (String weight : new String[] {"0", "00", "000", "100", "200", "999"}) {
                fails(new MessageCoder(), "weight d=" + weight, STATE);
            }
            for (String weight : new String[] {"", "0000", "0001", "1234", "1x", "x", "+1", "-1", " 1", "1.", "/", ":"}) {
                fails(new MessageCoder(), "weight d=" + weight, ARGUMENT);
            }
            MessageCoder frame = withLongestFrame();
            run(frame, "flip 195");
            same("three digits", frame.syndrome(27), 7);
            fails(frame, "flip 196", STATE);
        });
        says("The commands correspond to the methods setWeight, addSymbol for each symbol (draft), clearDraft, post, "
                + "drop, setPriority (hurry), learn, send, flip and receive, with the arguments in the same order.", () -> {
            MessageCoder coder = new MessageCoder();
            draft(coder, "abcdefghabcdef");
            fails(coder, "draft gha", STATE);
            same("draft rolled back", draftOf(coder), "abcdefghabcdef");
            run(coder, "draft gh;post 2;draft h;post 4;draft g;post 1");
            run(coder, "hurry 2 3");
            same("message 2, priority 3", coder.priorityOf(2), 3);
            same("queue", queueOf(coder), "1 2 0");
            for (String failing : new String[] {"weight a=0", "weight h=100", "post 3", "draft a;post 0", "draft a;post 6",
                "drop 3", "hurry 3 3", "hurry 2 0", "hurry 2 6", "learn 3", "flip 0", "receive"}) {
                fails(coder, failing, STATE);
            }
            run(coder, "send;flip 1;receive;learn 2;drop 2;weight b=7;clear");
            same("text", receivedOf(coder), "h");
            same("corrected", coder.correctedTotal(), 1);
            same("weights", coder.weightOf('g') * 10 + coder.weightOf('b'), 27);
            same("queue left", queueOf(coder), "0");
        });
    }

    private static void errorPositions() {
        says("The error position of a malformed program is the index of the first character that no valid program can "
                + "have there after the characters before it", () -> {
            for (String[] next : NEXT) {
                for (char sign = ' '; sign <= '~'; sign++) {
                    boolean fits = next[1].indexOf(sign) >= 0;
                    int due = next[0].length() + (fits ? 1 : 0);
                    same(next[0] + sign + "~", errorPositionOf(next[0] + sign + "~"), due);
                }
            }
            same("at the last of 60", errorPositionOf("clear;clear;clear;clear;clear;clear;clear;clear;clear;clearx"), 59);
            same("the first of two", errorPositionOf("send;dripp;dr"), 7);
        });
        says("or the length of the program if it is a proper prefix of a valid program.", () -> {
            for (String[] next : NEXT) {
                if (next[1].indexOf(';') < 0) {
                    same(next[0], errorPositionOf(next[0]), next[0].length());
                }
            }
            same("60 characters", errorPositionOf("clear;clear;clear;clear;clear;clear;clear;clear;clear;clear;"), 60);
            same("semicolon behind 12 commands",
                    errorPositionOf("send;send;send;send;send;send;send;send;send;send;send;send;"), 60);
        });
        says("Keywords are matched letter by letter.", () -> {
            same("draft or drop", errorPositionOf("drxft a"), 2);
            same("dra", errorPositionOf("drap 1"), 3);
            same("dro", errorPositionOf("droft a"), 3);
            same("learn", errorPositionOf("leorn 1"), 2);
            same("send", errorPositionOf("sand"), 1);
            same("in the second command", errorPositionOf("send;clean"), 9);
            same("capital letter", errorPositionOf("recEive"), 3);
        });
    }
}
