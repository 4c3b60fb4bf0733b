import java.math.BigInteger;

/** Each sentence on images and figures that names a boundary case: promises 40 to 45. */
public final class EdgeImageTest {
    private static final int NONE = Handshakewarden.NONE;
    private static final int[] FAR = {-1, 2, Integer.MIN_VALUE, Integer.MAX_VALUE};

    public static void main(String[] args) {
        images0And1();
        imageCountsPlaces();
        restoreWithoutAnImage();
        restoreAsOftenAsOneLikes();
        restoreKeepsEachWholeAndSlot();
        restoreKeepsTheRun();
        restoreKeepsTheMonitor();
        restoreOfNoRun();
        imageInPlaceOfTheOneBefore();
        tapeAndImagesStay();
        checksumWraps();
        checksumOfWholesSlotsAndRoles();
        meanOfNone();
        meanOfKinds();
        shareOfNoneAndAll();
        noErrors();
        noErrorsOfManyConfigurations();
        Check.end("EdgeImageTest");
    }

    /** "image: 0 or 1". */
    private static void images0And1() {
        Handshakewarden hall = new Handshakewarden();
        for (int wrong : FAR) {
            Check.dueIllegalArgument("image(" + wrong + ")", () -> hall.image(wrong));
            Check.dueIllegalArgument("restore(" + wrong + ")", () -> hall.restore(wrong));
        }
        Check.due("image(0)", 4, hall.image(0));
        Check.due("image(1)", 4, hall.image(1));
        for (int wrong : FAR) {
            Check.dueIllegalArgument("restore(" + wrong + ")", () -> hall.restore(wrong));
        }
        Check.due("restore(0)", 4, hall.restore(0));
        Check.due("restore(1)", 4, hall.restore(1));
    }

    /** "Returns the places of all wholes together." */
    private static void imageCountsPlaces() {
        Handshakewarden hall = new Handshakewarden();
        Check.due("the fewest", 4, hall.image(0));
        String[] texts = {"a>b{0:end}", "a>b{0:b>a{0:end}}", "loop x a>b{0:x}", "(end|end)"};
        int[] due = {5, 7, 7, 8};
        for (int whole = 0; whole < 4; whole++) {
            Check.read(hall, whole, texts[whole]);
            Check.due("with whole " + whole, due[whole], hall.image(whole % 2));
        }
        Check.due("then", 7, hall.restore(0));
        Check.due("then", 8, hall.restore(1));
    }

    /** "NoSuchElementException if none was kept there". */
    private static void restoreWithoutAnImage() {
        Handshakewarden hall = Check.hallOf("a>b{0:end}");
        Check.dueNoSuchElement("none", () -> hall.restore(0));
        Check.dueNoSuchElement("none", () -> hall.restore(1));
        hall.image(0);
        Check.dueNoSuchElement("none there", () -> hall.restore(1));
        Check.due("one there", 5, hall.restore(0));
        Check.dueIllegalArgument("out of range", () -> hall.restore(2));
        Handshakewarden other = new Handshakewarden();
        other.image(1);
        Check.dueNoSuchElement("none there", () -> other.restore(0));
        Check.due("an image of another object is not there", 4, other.restore(1));
    }

    /** "it can be restored as often as one likes". */
    private static void restoreAsOftenAsOneLikes() {
        Handshakewarden hall = Check.hallOf("a>b{0:a>b{1:end}}");
        hall.begin(0, 2);
        hall.send(0, 0);
        hall.letter(0, 1, 0);
        hall.image(1);
        for (int times = 0; times < 30; times++) {
            Check.due("sent", 1, hall.sent());
            Check.due("send", 2, hall.send(0, 1));
            Check.due("hear", 0, hall.hear(1));
            Check.due("tell", true, hall.letter(0, 1, 1));
            Check.read(hall, 0, "end");
            hall.part(0, 5, times % 8);
            Check.due("restore", 6, hall.restore(1));
            Check.due("the slot is as it was", 0, hall.roleOf(times % 8));
        }
        Check.due("the run is as it was", 1, hall.queue(0, 1));
    }

    /** "An image keeps wholes, slots ...". */
    private static void restoreKeepsEachWholeAndSlot() {
        Handshakewarden hall = Check.hallOf("a>b{0:end}", "a>b{0:b>c{0:end}}", "(c>d{0:end}|e>f{0:end})", "end");
        int[] roles = {3, 7, 60, 0};
        for (int slot = 0; slot < 8; slot++) {
            hall.part(slot % 2, slot % 3, slot);
        }
        hall.image(0);
        for (int whole = 0; whole < 4; whole++) {
            Check.read(hall, whole, "f>a{0:f>a{0:f>a{0:end}}}");
        }
        for (int slot = 0; slot < 8; slot++) {
            hall.part(slot % 4, 5, slot);
        }
        Check.due("16 places are away", 2 + 3 + 4 + 1, hall.restore(0));
        for (int whole = 0; whole < 4; whole++) {
            Check.due("whole " + whole, roles[whole], hall.roles(whole));
        }
        for (int slot = 0; slot < 8; slot++) {
            Check.due("role of slot " + slot, slot % 3, hall.roleOf(slot));
        }
        Check.due("states of slot 1", 3, hall.states(1));
        Check.due("states of slot 2", 1, hall.states(2));
    }

    /** "the run that is begun": its parts, bound, states, queues and letters. */
    private static void restoreKeepsTheRun() {
        Handshakewarden hall = Check.hallOf("loop x a>f{7:x,8:f>a{9:end}}", "a>b{0:end}");
        hall.begin(0, 3);
        hall.send(0, 7);
        hall.send(0, 8);
        hall.image(0);
        hall.begin(1, 1);
        hall.send(0, 0);
        hall.restore(0);
        Check.due("a's state", 1, hall.stateOf(0));
        Check.due("f's state", 0, hall.stateOf(5));
        Check.dueOutOfBounds("b does not stand in it", () -> hall.stateOf(1));
        Check.due("two were sent", 2, hall.sent());
        Check.due("two are on the way", 2, hall.queue(0, 5));
        Check.due("none of the other run", 0, hall.queue(0, 1));
        Check.due("the first one", 7, hall.queueAt(0, 5, 0));
        Check.due("the second one", 8, hall.queueAt(0, 5, 1));
        Check.dueIllegalState("something was sent in it", () -> hall.put(0));
        hall.hear(5);
        hall.hear(5);
        Check.due("it goes on", 1, hall.send(5, 9));
        hall.image(1);
        hall.begin(0, 1);
        hall.send(0, 7);
        Check.dueIllegalState("with bound 1", () -> hall.send(0, 7));
        hall.restore(0);
        Check.due("the bound is 3 again", 0, hall.stands());
        hall.restore(1);
        Check.due("of the other image", 9, hall.queueAt(5, 0, 0));
        Check.due("f's state of the other image", 2, hall.stateOf(5));
        hall.begin(0, 1);
        Check.due("f's first state", 0, hall.stateOf(5));
        hall.restore(1);
        Check.due("f's state again", 2, hall.stateOf(5));
    }

    /** "and the monitor". */
    private static void restoreKeepsTheMonitor() {
        Handshakewarden hall = Check.hallOf("a>b{0:a>b{1:a>b{2:end}}}");
        hall.begin(0, 1);
        hall.letter(0, 1, 0);
        hall.image(0);
        hall.letter(0, 1, 0);
        hall.image(1);
        hall.restore(0);
        Check.due("no fault", NONE, hall.blame(0));
        Check.due("at the second letter", true, hall.letter(0, 1, 1));
        hall.letter(1, 0, 0);
        Check.due("two were right", 2, hall.blame(0));
        Check.due("b's fault", 1, hall.blame(1));
        hall.restore(1);
        Check.due("one was right", 1, hall.blame(0));
        Check.due("a's fault", 0, hall.blame(1));
        Check.due("behind it", false, hall.letter(0, 1, 1));
        hall.restore(0);
        hall.restore(0);
        Check.due("at the second letter again", true, hall.letter(0, 1, 1));
        Check.read(hall, 0, "loop x a>f{0:b>f{1:x}}");
        hall.begin(0, 1);
        hall.letter(0, 5, 0);
        hall.image(0);
        hall.begin(0, 1);
        hall.restore(0);
        Check.due("f hears from b next", true, hall.letter(1, 5, 1));
    }

    private static void restoreOfNoRun() {
        Handshakewarden hall = Check.hallOf("a>b{0:end}");
        hall.image(1);
        hall.begin(0, 5);
        hall.send(0, 0);
        hall.letter(2, 1, 0);
        hall.restore(1);
        Check.due("no run", NONE, hall.stands());
        Check.due("nothing sent", 0, hall.sent());
        Check.due("nothing on the way", 0, hall.queue(0, 1));
        Check.due("no fault", NONE, hall.blame(0));
        Check.dueOutOfBounds("no state", () -> hall.stateOf(0));
        Check.dueIllegalState("nothing to look through", () -> hall.all(1, 0));
        Check.dueIllegalState("nothing to weave", () -> hall.back(0));
    }

    private static void imageInPlaceOfTheOneBefore() {
        Handshakewarden hall = Check.hallOf("a>b{0:end}");
        hall.image(0);
        hall.image(1);
        Check.read(hall, 0, "end");
        hall.image(0);
        Check.due("the later one", 4, hall.restore(0));
        Check.due("the other one stays", 5, hall.restore(1));
        Check.due("the later one still", 4, hall.restore(0));
    }

    /** "the tape, its error position and the images stay". */
    private static void tapeAndImagesStay() {
        Handshakewarden hall = Check.hallOf("a>b{0:end}");
        hall.image(0);
        Check.write(hall, "endless");
        Check.dueIllegalArgument("an error", () -> hall.read(0));
        Check.write(hall, "loop x end");
        Check.read(new Handshakewarden(), 0, "end");
        hall.image(1);
        hall.restore(0);
        Check.due("the error position", 0, hall.errorPosition());
        Check.due("the tape", 10, hall.append(0, 0, 0, 0, 0));
        hall.restore(1);
        Check.due("the tape", 10, hall.append(0, 0, 0, 0, 0));
        Check.due("it is what it was", 1, hall.read(3));
        hall.restore(0);
        Check.due("no error now", NONE, hall.errorPosition());
        Check.due("nothing on the tape", 0, hall.clearTape());
        Check.due("image 1", 5, hall.restore(1));
        Check.due("image 0", 5, hall.restore(0));
    }

    /** The sum without any bound, of which the lowest 32 bits are what is left when it wraps. */
    private static int wrapped(int... numbers) {
        BigInteger sum = BigInteger.valueOf(17);
        for (int number : numbers) {
            sum = sum.multiply(BigInteger.valueOf(31)).add(BigInteger.valueOf(number));
        }
        return sum.intValue();
    }

    /** "17 at first, then ... 31 times as much ...; it wraps". */
    private static void checksumWraps() {
        Handshakewarden hall = new Handshakewarden();
        Check.due("new: below 0", -1704822959, hall.checksum());
        Check.due("new", wrapped(1, 1, 1, 1, 1, 1, 1, 1, 1, 1, 1, 1), hall.checksum());
        for (int chain = 1; chain <= 12; chain++) {
            Check.read(hall, 1, "a>b{0:".repeat(chain) + "end" + "}".repeat(chain));
            int due = wrapped(1, chain + 1, 1, 1, 1, 1, 1, 1, 1, 1, 1, 1);
            Check.due(chain + " letters", due, hall.checksum());
            if (chain == 1) {
                Check.due("above 0", 793192978, due);
            } else if (chain == 2) {
                Check.due("below 0", -1003758381, due);
            }
        }
    }

    /** "for each whole ... the number of its places, for each slot ... its states, ... each role of the run". */
    private static void checksumOfWholesSlotsAndRoles() {
        Handshakewarden hall = Check.hallOf("f>e{0:e>b{0:b>e{0:end}}}", "a>b{0:end}", "a>b{0:b>a{0:end}}", "(end|end)");
        Check.due("wholes", wrapped(4, 2, 3, 2, 1, 1, 1, 1, 1, 1, 1, 1), hall.checksum());
        int[] roles = {5, 4, 1, 0, 1, 0, 1, 2};
        int[] wholes = {0, 0, 0, 1, 1, 2, 2, 2};
        for (int slot = 0; slot < 8; slot++) {
            hall.part(wholes[slot], roles[slot], slot);
        }
        Check.due("slots", wrapped(4, 2, 3, 2, 2, 4, 3, 2, 2, 3, 3, 1), hall.checksum());
        hall.begin(0, 1);
        Check.due("roles", wrapped(4, 2, 3, 2, 2, 4, 3, 2, 2, 3, 3, 1, 0, 0, 0), hall.checksum());
        hall.send(5, 0);
        Check.due("f", wrapped(4, 2, 3, 2, 2, 4, 3, 2, 2, 3, 3, 1, 0, 0, 1), hall.checksum());
        hall.hear(4);
        hall.send(4, 0);
        Check.due("e", wrapped(4, 2, 3, 2, 2, 4, 3, 2, 2, 3, 3, 1, 0, 2, 1), hall.checksum());
        hall.hear(1);
        Check.due("b", wrapped(4, 2, 3, 2, 2, 4, 3, 2, 2, 3, 3, 1, 1, 2, 1), hall.checksum());
        Check.read(hall, 0, "end");
        hall.begin(0, 1);
        Check.due("of no role", wrapped(1, 2, 3, 2, 2, 4, 3, 2, 2, 3, 3, 1), hall.checksum());
    }

    /** "0.0 without any". */
    private static void meanOfNone() {
        Handshakewarden hall = new Handshakewarden();
        Check.due("no LETTER", 0.0, hall.meanKinds());
        for (int whole = 0; whole < 4; whole++) {
            Check.read(hall, whole, "(end|(end|end))");
            Check.due("BESIDE is none", 0.0, hall.meanKinds());
        }
        Check.read(hall, 3, "loop x a>b{0:x}");
        Check.due("one", 1.0, hall.meanKinds());
    }

    /** "the sum of the numbers of their kinds, converted to double, divided by the number of LETTERs". */
    private static void meanOfKinds() {
        Handshakewarden hall = new Handshakewarden();
        String ten = "{0:end,1:end,2:end,3:end,4:end,5:end,6:end,7:end,8:end,9:end}";
        Check.read(hall, 0, "a>b" + ten);
        Check.due("ten", 10.0, hall.meanKinds());
        Check.read(hall, 3, "a>b{0:end}");
        Check.due("ten and one", 11.0 / 2.0, hall.meanKinds());
        Check.read(hall, 1, "a>b{0:b>a{0:end,1:end}}");
        Check.due("and one and two", 14.0 / 4.0, hall.meanKinds());
        Check.read(hall, 2, "(a>b{0:end}|loop x c>d{0:x})");
        Check.due("and one and one", 16.0 / 6.0, hall.meanKinds());
        hall.begin(1, 1);
        hall.send(0, 0);
        Check.due("the run does not matter", 16.0 / 6.0, hall.meanKinds());
    }

    /** "how many can be, converted to float, divided by 4.0f". */
    private static void shareOfNoneAndAll() {
        Handshakewarden hall = new Handshakewarden();
        Check.due("all", 1.0f, hall.cutShare());
        float[] due = {0.75f, 0.5f, 0.25f, 0.0f};
        for (int whole = 0; whole < 4; whole++) {
            Check.read(hall, 3 - whole, "a>b{0:end,1:b>c{0:end}}");
            Check.due("all but " + (whole + 1), due[whole], hall.cutShare());
        }
        Check.read(hall, 0, "end");
        Check.due("one again", 0.25f, hall.cutShare());
    }

    /** "Returns how many there are; always 0." */
    private static void noErrors() {
        Handshakewarden hall = new Handshakewarden();
        Check.due("new", 0, hall.errors());
        Check.read(hall, 0, "loop x a>b{0:b>a{0:x},1:end}");
        Check.read(hall, 1, "a>b{0:end,1:b>c{0:end}}");
        Check.read(hall, 2, "(loop x a>b{0:x}|loop x c>d{0:x})");
        Check.read(hall, 3, "a>b{0:a>c{1:end},2:a>c{3:end}}");
        for (int role = 0; role < 4; role++) {
            hall.part(2 + role / 2, role % 2 + 1, role);
        }
        hall.part(0, 0, 4);
        hall.mirror(4, 5);
        hall.mirror(5, 6);
        Check.due("of all sorts", 0, hall.errors());
        hall.part(0, 1, 7);
        hall.begin(3, 1);
        hall.put(7);
        Check.due("the run is at odds, its wholes are not", 0, hall.errors());
    }

    private static void noErrorsOfManyConfigurations() {
        Handshakewarden hall = new Handshakewarden();
        Check.read(hall, 3, "(loop x a>b{0:x,1:x,2:x,3:x}|(loop x c>d{0:x,1:x,2:x,3:x}|loop x e>f{0:x,1:x,2:x,3:x}))");
        Check.due("125", 0, hall.errors());
        String nine = "{0:x,1:x,2:x,3:x,4:x,5:x,6:x,7:x,8:x}";
        Check.read(hall, 3, "(loop x a>b" + nine + "|(loop x c>d" + nine + "|loop x e>f" + nine + "))");
        Check.due("1000", 0, hall.errors());
        hall.begin(3, 1);
        Check.due("they are more than 600", NONE, hall.all(1, 0));
    }
}
