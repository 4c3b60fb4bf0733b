/** Promises 1 to 6: a new object, append, clearTape, errorPosition, read, example. */
public final class TapeTest {
    private static final String[] EXAMPLES = {
        "loop x a>b{0:b>c{1:x},2:b>c{3:end}}",
        "a>b{0:a>c{0:b>c{1:end}},1:a>c{1:c>b{2:end}}}",
        "a>b{0:b>c{1:end},1:c>b{2:end}}",
        "(a>b{0:end}|loop y c>d{1:y,2:d>c{3:end}})",
        "loop x a>b{0:b>a{1:x,2:end},3:b>a{4:end}}"
    };
    private static final int NO_ERROR = Handshakewarden.NONE;

    public static void main(String[] args) {
        newObject();
        append();
        clearTape();
        errorPosition();
        readOutOfRange();
        readsTokens();
        readsLoops();
        readsLetters();
        readsBeside();
        readsAgain();
        readsDepth();
        examples();
        Check.end("TapeTest");
    }

    private static void newObject() {
        Handshakewarden hall = new Handshakewarden();
        for (int whole = 0; whole < 4; whole++) {
            Check.due("new: places", 1, hall.places(whole));
            Check.due("new: sort", 0, hall.placeAt(whole, 0, 0));
            Check.due("new: roles", 0, hall.roles(whole));
            Check.due("new: cut", 0, hall.cut(whole));
        }
        for (int slot = 0; slot < 8; slot++) {
            Check.due("new: roleOf", 0, hall.roleOf(slot));
            Check.due("new: states", 1, hall.states(slot));
            Check.due("new: sort of a state", 0, hall.stateAt(slot, 0, 0));
        }
        Check.due("new: stands", -1, hall.stands());
        Check.due("new: sent", 0, hall.sent());
        Check.due("new: blame", -1, hall.blame(0));
        Check.due("new: error position", -1, hall.errorPosition());
        Check.due("new: tape", 0, hall.clearTape());
        for (int image = 0; image < 2; image++) {
            int one = image;
            Check.dueNoSuchElement("new: restore", () -> hall.restore(one));
        }
        Check.dueOutOfBounds("new: stateOf", () -> hall.stateOf(0));
        Check.dueIllegalState("new: least", () -> hall.least());
    }

    private static void append() {
        Handshakewarden hall = new Handshakewarden();
        Check.due("append nothing", 0, hall.append(0, 0, 0, 0, 0));
        Check.due("append with zeros inside", 2, hall.append(0x65000000, 0x00006e00, 0, 0, 0));
        Check.due("append behind it", 3, hall.append(0, 0, 0, 0, 0x64));
        Check.due("the bytes are in order", 1, hall.read(0));
        Check.due("all parameters in order", 20,
                hall.append(0x6c6f6f70, 0x20782061, 0x3e627b30, 0x3a782c31, 0x3a656e64));
        Check.due("the last byte", 21, hall.append('}', 0, 0, 0, 0));
        Check.due("all parameters are a text", 2, hall.read(1));
        Check.due("bytes from 128 on", 4, hall.append(-1, 0, 0, 0, 0));
        Check.dueIllegalArgument("they are no token", () -> hall.read(0));
        appendLimit();
    }

    private static void appendLimit() {
        Handshakewarden hall = new Handshakewarden();
        for (int i = 1; i <= 11; i++) {
            Check.due("append 20", 20 * i,
                    hall.append(0x20202020, 0x20202020, 0x20202020, 0x20202020, 0x20202020));
        }
        Check.due("append to 239", 239,
                hall.append(0x20202020, 0x20202020, 0x20202020, 0x20202020, 0x202020));
        Check.dueIllegalState("append to 241", () -> hall.append(0, 0, 0, 0, 0x2020));
        Check.due("nothing was appended", 239, hall.append(0, 0, 0, 0, 0));
        Check.due("append to 240", 240, hall.append(0, 0x20000000, 0, 0, 0));
        Check.due("append nothing to 240", 240, hall.append(0, 0, 0, 0, 0));
        Check.dueIllegalState("append to a full tape", () -> hall.append(1, 0, 0, 0, 0));
        Check.dueIllegalArgument("240 blanks", () -> hall.read(0));
        Check.due("the text ends too early", 240, hall.errorPosition());
        Check.due("there is room again", 1, hall.append(1, 0, 0, 0, 0));
    }

    private static void clearTape() {
        Handshakewarden hall = new Handshakewarden();
        Check.write(hall, "a>b{");
        Check.due("clearTape", 4, hall.clearTape());
        Check.due("clearTape again", 0, hall.clearTape());
        Check.write(hall, "end");
        Check.due("read what came later", 1, hall.read(0));
        Check.due("read empties the tape", 0, hall.clearTape());
        Check.write(hall, "end end");
        Check.dueIllegalArgument("read an error", () -> hall.read(0));
        Check.due("an error empties the tape, too", 0, hall.clearTape());
    }

    private static void errorPosition() {
        Handshakewarden hall = new Handshakewarden();
        Check.write(hall, "a>b{0:a>a{0:end}}");
        Check.dueIllegalArgument("read an error", () -> hall.read(2));
        Check.due("error position", 8, hall.errorPosition());
        Check.due("a question", 8, hall.errorPosition());
        hall.clearTape();
        hall.example(0);
        hall.image(0);
        hall.restore(0);
        Check.dueIllegalArgument("read out of range", () -> hall.read(4));
        Check.due("the latest read that looked at a text", 8, hall.errorPosition());
        hall.read(2);
        Check.due("no error", -1, hall.errorPosition());
        Check.dueIllegalArgument("read an empty tape", () -> hall.read(2));
        Check.due("an empty text ends too early", 0, hall.errorPosition());
    }

    private static void readOutOfRange() {
        Handshakewarden hall = new Handshakewarden();
        hall.example(2);
        Check.dueIllegalArgument("read(-1)", () -> hall.read(-1));
        Check.dueIllegalArgument("read(4)", () -> hall.read(4));
        Check.due("the tape stays", 30, hall.append(0, 0, 0, 0, 0));
        Check.due("read(3)", 4, hall.read(3));
        Check.write(hall, "a>b");
        Check.dueIllegalArgument("an error", () -> hall.read(3));
        Check.due("the whole stays", 4, hall.places(3));
        Check.due("other wholes stay", 1, hall.places(0));
    }

    private static void error(String text, int position) {
        Check.due("error of \"" + text + "\"", position, Check.errorOf(text));
    }

    private static void readsTokens() {
        error("", 0);
        error("  \n", 3);
        error("end", NO_ERROR);
        error(" \n end\n ", NO_ERROR);
        error(" a > b\n{ 0 : end , 1 : end } ", NO_ERROR);
        error("en", 0);
        error("endd", 0);
        error("eend", 0);
        error("enx", 0);
        error("ead", 0);
        error("ent", 0);
        error("laop x end", 0);
        error("loap x end", 0);
        error("look x end", 0);
        error("e nd", 2);
        error("End", 0);
        error("end end", 4);
        error("end}", 3);
        error("end\t", 3);
        error("a\r>b{0:end}", 1);
        error("a>b{12:end}", 4);
        error("a>b{1 2:end}", 6);
        error("a>b{0:12}", 6);
        error("a>b{0:end}34", 10);
        error("a>b{0end}", 5);
        error("?", 0);
        error("\u00e9nd", 0);
        error("ab>c{0:end}", 0);
        error("a>bc{0:end}", 2);
        error("{", 0);
        error("0", 0);
    }

    private static void readsLoops() {
        error("x", 0);
        error("loop", 4);
        error("loop x", 6);
        error("loop x ", 7);
        error("loopx end", 0);
        error("lop x end", 0);
        error("loops x end", 0);
        error("loop a end", 5);
        error("loop w end", 5);
        error("loop xy end", 5);
        error("loop end", 5);
        error("loop x end", NO_ERROR);
        error("loop x x", 7);
        error("loop x loop y x", 14);
        error("loop x loop x end", 12);
        error("loop x a>b{0:loop x end}", 18);
        error("loop x a>b{0:x,1:end}", NO_ERROR);
        error("loop x loop y loop z a>b{0:x,1:y,2:z}", NO_ERROR);
        error("loop x a>b{0:y}", 13);
        error("loop x a>b{0:loop y y}", 20);
        error("loop x a>b{0:loop y x}", NO_ERROR);
        error("a>b{0:loop x a>b{0:x},1:x}", 24);
        error("a>b{0:loop x a>b{0:x},1:loop x a>b{0:x}}", NO_ERROR);
        error("loop x a>b{0:x} x", 16);
    }

    private static void readsLetters() {
        error("a", 1);
        error("a>", 2);
        error("a>b", 3);
        error("a>b{", 4);
        error("a>b{0", 5);
        error("a>b{0:", 6);
        error("a>b{0:end", 9);
        error("a>b{0:end,", 10);
        error("a>b{0:end,}", 10);
        error("a>b{0:end}", NO_ERROR);
        error("f>e{9:end}", NO_ERROR);
        error("a>b{}", 4);
        error("a>b{a:end}", 4);
        error("a>b{0,end}", 5);
        error("a>b{0:end;1:end}", 9);
        error("a>b(0:end)", 3);
        error("a<b{0:end}", 1);
        error("a b{0:end}", 2);
        error("a>a{0:end}", 2);
        error("a>g{0:end}", 2);
        error("a>x{0:end}", 2);
        error("g>a{0:end}", 0);
        error("a>b{0:end,0:end}", 10);
        error("a>b{0:end,1:end,0:end}", 16);
        error("a>b{0:a>b{0:end},1:end}", NO_ERROR);
        error("a>b{9:end,0:end}", NO_ERROR);
        error("a>b{0:end,1:end,2:end,3:end,4:end,5:end,6:end,7:end,8:end,9:end}", NO_ERROR);
        error("a>b{0:end,1:end,2:end,3:end,4:end,5:end,6:end,7:end,8:end,9:end,5:end}", 64);
        error("a>b{0:end,1:end,2:end,3:end,4:end,5:end,6:end,7:end,8:end,9:end,", 64);
    }

    private static void readsBeside() {
        error("(", 1);
        error("(end", 4);
        error("(end|", 5);
        error("(end|end", 8);
        error("(end|end)", NO_ERROR);
        error("(|end)", 1);
        error("(end|)", 5);
        error("(end end)", 5);
        error("(end|end}", 8);
        error("(end|end|end)", 8);
        error("(end)", 4);
        error("(a>b{0:end}|c>d{0:end})", NO_ERROR);
        error("(a>b{0:end}|a>c{0:end})", 12);
        error("(a>b{0:end}|c>b{0:end})", 14);
        error("(a>b{0:end}|c>d{0:d>a{0:end}})", 20);
        error("(a>b{0:end}|(c>d{0:end}|e>a{0:end}))", 26);
        error("((a>b{0:end}|end)|a>b{0:end})", 18);
        error("((a>b{0:end}|c>d{0:end})|d>e{0:end})", 25);
        error("(a>b{0:(end|end)}|a>c{0:end})", 18);
        error("(a>b{0:(c>d{0:end}|e>f{0:end})}|b>a{0:end})", 32);
        error("(a>b{0:(c>d{0:end}|e>f{0:end})}|c>d{0:end})", 32);
        error("(a>b{0:(c>d{0:end}|e>f{0:end})}|f>e{0:end})", 32);
        error("(a>b{0:end}|(c>d{0:end}|(e>f{0:end}|b>a{0:end})))", 36);
        error("a>b{0:(a>b{0:end}|end),1:(end|a>b{0:end})}", NO_ERROR);
        error("a>b{0:(a>b{0:end}|c>d{0:end}),1:b>a{2:end}}", NO_ERROR);
        error("a>b{0:(c>d{0:end}|a>b{0:end})}", NO_ERROR);
        error("loop x a>b{0:(x|end)}", 14);
        error("loop x a>b{0:(end|x)}", 18);
        error("loop x a>b{0:(loop x a>b{1:x}|end)}", NO_ERROR);
        error("loop x a>b{0:(loop x a>b{1:x}|c>d{0:x})}", 36);
        error("loop x a>b{0:(end|end),1:x}", NO_ERROR);
        error("loop x (loop x a>b{0:x}|loop x c>d{0:x})", NO_ERROR);
        error("loop x (a>b{0:x}|end)", 14);
        error("loop y loop z a>b{0:(end|end),1:y,2:z}", NO_ERROR);
        error("loop z a>b{0:(loop y end|loop x end),1:y}", 39);
        error("loop x a>b{0:(loop x c>d{0:x}|end),1:loop x end}", 42);
    }

    /** What an error leaves behind in the middle of a text is not there for the next text. */
    private static void readsAgain() {
        String[] texts = {"(a>b{0:end}|c>d{0:?", "loop x loop y a>b{0:?", "((((((((((((?", "a>b{0:end,0"};
        for (String text : texts) {
            Handshakewarden hall = new Handshakewarden();
            Check.write(hall, text);
            Check.dueIllegalArgument(text, () -> hall.read(0));
            Check.due("a text behind " + text, 2, Check.read(hall, 0, "loop x loop y a>b{0:b>a{0:x,1:y}}"));
            Check.due("another one", 4, Check.read(hall, 0, "(a>b{0:loop x end}|d>c{0:end,1:end})"));
        }
    }

    private static void readsDepth() {
        String braces = "a>b{0:".repeat(12);
        error(braces + "end" + "}".repeat(12), NO_ERROR);
        error(braces + "a>b{0:end}" + "}".repeat(12), 75);
        error(braces + "(end|end)" + "}".repeat(12), 72);
        error(braces + "loop x end" + "}".repeat(12), 72);
        error("(".repeat(12) + "end" + "|end)".repeat(12), NO_ERROR);
        error("(".repeat(13) + "end" + "|end)".repeat(13), 12);
        String ten = "a>b{0:".repeat(10);
        error(ten + "loop x loop y end" + "}".repeat(10), NO_ERROR);
        error(ten + "loop x loop y loop z end" + "}".repeat(10), 74);
        error(ten + "loop x loop y a>b{0:end}" + "}".repeat(10), 77);
        error(ten + "loop x a>b{0:end,1:loop y end}" + "}".repeat(10), 79);
        error(ten + "a>b{0:loop x end,1:loop x end}" + "}".repeat(10), NO_ERROR);
        error("a>b{0:end,1:" + "a>b{0:".repeat(11) + "end" + "}".repeat(12), NO_ERROR);
        error("a>b{0:a>b{0:end},1:" + "a>b{0:".repeat(11) + "a>b{0:end}", 88);
    }

    private static void examples() {
        Handshakewarden hall = new Handshakewarden();
        int[] places = {4, 6, 4, 5, 4};
        for (int which = 0; which < 5; which++) {
            Check.write(hall, "something else");
            Check.due("example " + which, EXAMPLES[which].length(), hall.example(which));
            Check.due("example " + which + " on the tape", places[which], hall.read(0));
            Check.read(hall, 1, EXAMPLES[which]);
            Check.due("example " + which + " is alike", true, hall.areAlike(0, 1));
        }
        hall.example(3);
        Check.dueIllegalArgument("example(-1)", () -> hall.example(-1));
        Check.dueIllegalArgument("example(5)", () -> hall.example(5));
        Check.due("the tape stays", EXAMPLES[3].length(), hall.clearTape());
    }
}
