/** Each sentence on the tape that names a boundary case: promises 1 to 6. */
public final class EdgeTapeTest {
    private static final int NONE = Handshakewarden.NONE;
    private static final int BLANKS = 0x20202020;

    public static void main(String[] args) {
        newObject();
        fourBytesOfEachParameter();
        mostSignificantByteFirst();
        bytesThatAreZero();
        atMost240Bytes();
        atMost240BytesInOneCall();
        zerosDoNotCount();
        refusedAppendKeepsTheTape();
        clearTape();
        errorPositionOfTheLatestRead();
        errorPositionFromZeroTo240();
        readTakesWholes0To3();
        readOutOfRangeKeepsAll();
        readOfAnError();
        readEmptiesTheTape();
        exampleTakes0To4();
        exampleInPlaceOfWhatIsThere();
        exampleRefused();
        lastCall();
        Check.end("EdgeTapeTest");
    }

    private static int onTape(Handshakewarden hall) {
        return hall.append(0, 0, 0, 0, 0);
    }

    /** A tape of so many blanks. */
    private static Handshakewarden blanks(int count) {
        Handshakewarden hall = new Handshakewarden();
        for (int i = 0; i + 20 <= count; i += 20) {
            hall.append(BLANKS, BLANKS, BLANKS, BLANKS, BLANKS);
        }
        for (int i = 0; i < count % 20; i++) {
            hall.append(0, 0, 32, 0, 0);
        }
        return hall;
    }

    /** "each whole is "end", each slot has the part of the role a that is just END, no run was begun". */
    private static void newObject() {
        Handshakewarden hall = new Handshakewarden();
        Check.due("the tape is empty", 0, onTape(hall));
        Check.due("no read yet", NONE, hall.errorPosition());
        for (int whole = 0; whole < 4; whole++) {
            Check.due("one place", 1, hall.places(whole));
            for (int what = 0; what < 4; what++) {
                Check.due("END", what == 1 || what == 2 ? NONE : 0, hall.placeAt(whole, 0, what));
            }
        }
        for (int slot = 0; slot < 8; slot++) {
            Check.due("role a", 0, hall.roleOf(slot));
            Check.due("one state", 1, hall.states(slot));
            for (int what = 0; what < 3; what++) {
                Check.due("just END", what == 1 ? NONE : 0, hall.stateAt(slot, 0, what));
            }
        }
        Check.due("no run stands", NONE, hall.stands());
        Check.due("no run sent", 0, hall.sent());
        Check.due("no run has letters", 0, hall.queue(0, 1));
        Check.dueOutOfBounds("no run has states", () -> hall.stateOf(0));
        Check.dueIllegalState("no run is looked through", () -> hall.all(1, 0));
        Check.dueIllegalState("no run has a monitor", () -> hall.letter(0, 1, 0));
        Check.due("nobody's fault", NONE, hall.blame(1));
        Check.dueNoSuchElement("no image 0", () -> hall.restore(0));
        Check.dueNoSuchElement("no image 1", () -> hall.restore(1));
    }

    /** "the four bytes of each parameter ... in the order of the parameters". */
    private static void fourBytesOfEachParameter() {
        Handshakewarden hall = new Handshakewarden();
        Check.due("20 bytes", 20, hall.append(0x613e627b, 0x393a656e, 0x642c303a, 0x656e642c, 0x313a656e));
        Check.due("2 bytes", 22, hall.append(0, 0, 0x647d, 0, 0));
        Check.due("a>b{9:end,0:end,1:end}", 2, hall.read(0));
        Check.due("its kinds", 515, hall.placeAt(0, 0, 3));
        for (int at = 0; at < 5; at++) {
            int[] word = new int[5];
            word[at] = 0x656e6420;
            Check.due("4 bytes", 4, hall.append(word[0], word[1], word[2], word[3], word[4]));
            Check.due("end by parameter " + at, 1, hall.read(0));
        }
    }

    /** "the most significant byte first". */
    private static void mostSignificantByteFirst() {
        Handshakewarden hall = new Handshakewarden();
        hall.append(0x656e6400, 0, 0, 0, 0);
        Check.due("end", 1, hall.read(0));
        hall.append(0x00646e65, 0, 0, 0, 0);
        Check.dueIllegalArgument("dne", () -> hall.read(0));
        hall.append('e', 'n', 'd', 0, 0);
        Check.due("end by single bytes", 1, hall.read(0));
        hall.append('e' << 24, 'n' << 16, 'd' << 8, ' ', 0);
        Check.due("end by bytes of each weight", 1, hall.read(0));
    }

    /** "Bytes that are 0 are left out." */
    private static void bytesThatAreZero() {
        Handshakewarden hall = new Handshakewarden();
        Check.due("none", 0, hall.append(0, 0, 0, 0, 0));
        Check.due("ahead of, between and behind", 3, hall.append(0x00650000, 0, 0x6e000000, 0, 0x00006400));
        Check.due("end", 1, hall.read(0));
        Check.due("1 is no 0", 4, hall.append(0x01010101, 0, 0, 0, 0));
        Check.due("128 is no 0", 8, hall.append(0x80808080, 0, 0, 0, 0));
        Check.due("255 is no 0", 28, hall.append(-1, -1, -1, -1, -1));
        Check.due("the least number has one byte", 29, hall.append(Integer.MIN_VALUE, 0, 0, 0, 0));
        Check.due("the greatest one has four", 33, hall.append(Integer.MAX_VALUE, 0, 0, 0, 0));
    }

    /** "IllegalStateException if the tape would have more than 240 bytes". */
    private static void atMost240Bytes() {
        Handshakewarden hall = blanks(239);
        Check.due("240 are taken", 240, hall.append(0, 0, 0, 0, 32));
        Check.due("none more is taken", 240, onTape(hall));
        Check.dueIllegalState("241 are refused", () -> hall.append(0, 0, 0, 0, 32));
        Check.dueIllegalState("241 are refused", () -> hall.append(1 << 24, 0, 0, 0, 0));
    }

    private static void atMost240BytesInOneCall() {
        Handshakewarden hall = blanks(220);
        Check.due("20 to 240", 240, hall.append(BLANKS, BLANKS, BLANKS, BLANKS, BLANKS));
        Handshakewarden other = blanks(221);
        Check.dueIllegalState("20 to 241", () -> other.append(BLANKS, BLANKS, BLANKS, BLANKS, BLANKS));
        Check.due("19 to 240", 240, other.append(BLANKS, BLANKS, BLANKS, BLANKS, 0x202020));
        Handshakewarden full = blanks(240);
        Check.dueIllegalState("20 to 260", () -> full.append(-1, -1, -1, -1, -1));
    }

    private static void zerosDoNotCount() {
        Handshakewarden hall = blanks(235);
        Check.due("5 bytes of 20", 240, hall.append(32 << 24, 32 << 16, 32 << 8, 32, 32));
        Handshakewarden other = blanks(235);
        Check.dueIllegalState("6 bytes of 20", () -> other.append(32 << 24, 32 << 16, 32 << 8, 32, 0x2020));
    }

    /** "A call that throws an exception changes nothing". */
    private static void refusedAppendKeepsTheTape() {
        Handshakewarden hall = blanks(230);
        Check.write(hall, "a>b{1:end");
        Check.dueIllegalState("two bytes too many", () -> hall.append('}', ' ', ' ', 0, 0));
        Check.due("239 still", 239, onTape(hall));
        Check.due("and no error position", NONE, hall.errorPosition());
        Check.due("the last one", 240, hall.append('}', 0, 0, 0, 0));
        Check.due("nothing of what was refused is there", 2, hall.read(1));
        Check.due("kind 1", 2, hall.placeAt(1, 0, 3));
    }

    /** "Empties the tape. Returns the number of bytes that were on it." */
    private static void clearTape() {
        Check.due("an empty one", 0, new Handshakewarden().clearTape());
        Handshakewarden hall = blanks(240);
        Check.due("a full one", 240, hall.clearTape());
        Check.due("it is empty then", 0, onTape(hall));
        Check.due("again", 0, hall.clearTape());
        Check.due("one byte", 1, hall.append(0, 0, 0, 'e', 0));
        Check.due("one byte", 1, hall.clearTape());
        Check.write(hall, "end");
        Check.due("what was cleared is away", 1, hall.read(0));
    }

    /** "the error position of the latest read() ... NONE if there was no error, or no such call yet". */
    private static void errorPositionOfTheLatestRead() {
        Handshakewarden hall = new Handshakewarden();
        Check.due("no such call yet", NONE, hall.errorPosition());
        hall.example(0);
        Check.due("an example is no such call", NONE, hall.errorPosition());
        hall.read(0);
        Check.due("no error", NONE, hall.errorPosition());
        Check.write(hall, "end q");
        Check.dueIllegalArgument("an error", () -> hall.read(0));
        Check.due("the first error", 4, hall.errorPosition());
        Check.due("a question", 4, hall.errorPosition());
        Check.write(hall, "q");
        hall.clearTape();
        Check.due("clearTape keeps it", 4, hall.errorPosition());
        Check.write(hall, " q");
        Check.dueIllegalArgument("another error", () -> hall.read(3));
        Check.due("the latest error", 1, hall.errorPosition());
        Check.write(hall, "end");
        hall.read(2);
        Check.due("no error now", NONE, hall.errorPosition());
    }

    private static void errorPositionFromZeroTo240() {
        Handshakewarden hall = new Handshakewarden();
        Check.dueIllegalArgument("an empty tape", () -> hall.read(0));
        Check.due("its length", 0, hall.errorPosition());
        Handshakewarden full = blanks(240);
        Check.dueIllegalArgument("a full one that ends too early", () -> full.read(0));
        Check.due("its length", 240, full.errorPosition());
        Handshakewarden last = blanks(239);
        last.append('?', 0, 0, 0, 0);
        Check.dueIllegalArgument("the last byte", () -> last.read(0));
        Check.due("its index", 239, last.errorPosition());
        Handshakewarden long3 = blanks(237);
        Check.write(long3, "end");
        Check.due("a text in the last bytes", 1, long3.read(0));
    }

    /** "whole: 0 to 3". */
    private static void readTakesWholes0To3() {
        Handshakewarden hall = new Handshakewarden();
        for (int whole = 0; whole < 4; whole++) {
            Check.due("read(" + whole + ")", 2, Check.read(hall, whole, "a>b{0:end}"));
            for (int other = 0; other < 4; other++) {
                Check.due("only this one", other <= whole ? 2 : 1, hall.places(other));
            }
        }
        hall.example(1);
        for (int wrong : new int[] {-1, 4, Integer.MIN_VALUE, Integer.MAX_VALUE}) {
            Check.dueIllegalArgument("read(" + wrong + ")", () -> hall.read(wrong));
        }
        Check.due("read(3)", 6, hall.read(3));
    }

    /** "IllegalArgumentException if whole is out of range (the tape stays then)". */
    private static void readOutOfRangeKeepsAll() {
        Handshakewarden hall = new Handshakewarden();
        Check.write(hall, "a>b{0:?");
        Check.dueIllegalArgument("read(4) of an error", () -> hall.read(4));
        Check.dueIllegalArgument("read(-1) of an error", () -> hall.read(-1));
        Check.due("the tape stays", 7, onTape(hall));
        Check.due("the error position, too", NONE, hall.errorPosition());
        Check.dueIllegalArgument("read(0) of it", () -> hall.read(0));
        Check.due("now it is found", 6, hall.errorPosition());
        Check.dueIllegalArgument("read(4) of nothing", () -> hall.read(4));
        Check.due("the error position stays", 6, hall.errorPosition());
    }

    /** "read() empties the tape and sets the error position"; else nothing is different. */
    private static void readOfAnError() {
        Handshakewarden hall = Check.hallOf("a>b{0:end}", "a>b{0:end}", "a>b{0:end}", "a>b{0:end}");
        for (int whole = 0; whole < 4; whole++) {
            int asked = whole;
            Check.write(hall, "a>b{0:b>c{0:end},0:end}");
            Check.dueIllegalArgument("an error behind two places", () -> hall.read(asked));
            Check.due("the tape is empty", 0, onTape(hall));
            Check.due("the error position", 17, hall.errorPosition());
            Check.due("the whole stays", 2, hall.places(whole));
            Check.due("its roles", 3, hall.roles(whole));
        }
        Check.due("a right text then", 1, Check.read(hall, 0, "end"));
    }

    private static void readEmptiesTheTape() {
        Handshakewarden hall = blanks(237);
        Check.write(hall, "end");
        hall.read(0);
        Check.due("empty", 0, onTape(hall));
        Check.dueIllegalArgument("nothing there", () -> hall.read(0));
        Check.due("the whole stays", 1, hall.places(0));
    }

    /** "which: 0 to 4"; "Returns the number of bytes on the tape." */
    private static void exampleTakes0To4() {
        Handshakewarden hall = new Handshakewarden();
        int[] bytes = {35, 44, 30, 41, 41};
        int[] places = {4, 6, 4, 5, 4};
        int[] roles = {7, 7, 7, 15, 3};
        int[] cuts = {3, 3, NONE, 4, 2};
        for (int which = 0; which < 5; which++) {
            Check.due("bytes of example " + which, bytes[which], hall.example(which));
            Check.due("bytes on the tape", bytes[which], onTape(hall));
            Check.due("places of example " + which, places[which], hall.read(0));
            Check.due("roles of example " + which, roles[which], hall.roles(0));
            Check.due("cut of example " + which, cuts[which], hall.cut(0));
        }
    }

    /** "Puts one of these texts on the tape, in place of what is on it". */
    private static void exampleInPlaceOfWhatIsThere() {
        Handshakewarden hall = blanks(240);
        Check.due("in place of a full tape", 30, hall.example(2));
        Check.due("a shorter one in place of a longer one", 44, hall.example(1));
        Check.due("a shorter one in place of a longer one", 35, hall.example(0));
        Check.due("nothing of the longer one is left", 4, hall.read(0));
        hall.example(0);
        Check.due("behind it there is room for 205 bytes", 35 + 20, hall.append(BLANKS, BLANKS, BLANKS, BLANKS, BLANKS));
        Check.due("blanks behind it", 4, hall.read(0));
    }

    private static void exampleRefused() {
        Handshakewarden hall = new Handshakewarden();
        Check.write(hall, "end");
        for (int wrong : new int[] {-1, 5, Integer.MIN_VALUE, Integer.MAX_VALUE}) {
            Check.dueIllegalArgument("example(" + wrong + ")", () -> hall.example(wrong));
        }
        Check.due("the tape stays", 3, onTape(hall));
        Check.due("and is what it was", 1, hall.read(0));
    }

    /** "An object is used for at most 512 calls after it has been made". */
    private static void lastCall() {
        Handshakewarden hall = new Handshakewarden();
        hall.example(4);
        hall.read(0);
        hall.begin(0, 5);
        for (int call = 4; call <= 511; call += 4) {
            hall.send(0, 0);
            hall.hear(1);
            hall.send(1, 1);
            hall.hear(0);
        }
        Check.due("the 512th call", 254, hall.sent());
    }
}
