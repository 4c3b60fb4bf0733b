/** Promises 40 to 45: image, restore, checksum, meanKinds, cutShare, errors. */
public final class ImageTest {
    public static void main(String[] args) {
        image();
        restoreWholesAndSlots();
        restoreEachOne();
        restoreRunAndMonitor();
        restoreNoRun();
        whatStays();
        wrongNumbers();
        checksum();
        meanKinds();
        cutShare();
        errors();
        Check.end("ImageTest");
    }

    private static void image() {
        Handshakewarden hall = Check.hallOf("a>b{0:end}", "a>b{0:a>b{1:end}}");
        Check.due("places together", 2 + 3 + 1 + 1, hall.image(1));
        Check.read(hall, 3, "loop x a>b{0:b>a{1:x,2:end},3:b>a{4:end}}");
        Check.due("places together", 10, hall.image(0));
        Check.due("the places then", 7, hall.restore(1));
        Check.due("the places then", 10, hall.restore(0));
        Check.due("in place of the one before", 10, hall.image(1));
        Check.due("the places then", 10, hall.restore(1));
    }

    private static void restoreWholesAndSlots() {
        Handshakewarden hall = Check.hallOf("a>b{0:end}", "c>d{0:d>c{1:end}}");
        hall.part(1, 2, 4);
        hall.image(0);
        hall.part(0, 0, 4);
        hall.part(0, 1, 5);
        Check.read(hall, 1, "end");
        Check.read(hall, 2, "a>b{0:b>a{0:end}}");
        for (int times = 0; times < 3; times++) {
            Check.due("as often as one likes", 2 + 3 + 1 + 1, hall.restore(0));
            Check.due("slot 4", 2, hall.roleOf(4));
            Check.due("slot 4", 3, hall.states(4));
            Check.due("slot 5", 0, hall.roleOf(5));
            Check.due("whole 1", 3, hall.places(1));
            Check.due("whole 2", 1, hall.places(2));
            hall.mirror(4, 4);
            Check.read(hall, 1, "a>b{0:end}");
        }
    }

    private static void restoreEachOne() {
        Handshakewarden hall = new Handshakewarden();
        Check.read(hall, 0, "a>b{0:b>c{0:end}}");
        hall.begin(0, 1);
        hall.send(0, 0);
        hall.hear(1);
        hall.image(0);
        for (int whole = 3; whole >= 0; whole--) {
            Check.read(hall, whole, "a>b{0:end}");
        }
        for (int slot = 0; slot < 8; slot++) {
            hall.part(0, 1, slot);
        }
        hall.begin(0, 1);
        hall.restore(0);
        Check.due("whole 0", 3, hall.places(0));
        for (int whole = 1; whole < 4; whole++) {
            Check.due("whole " + whole, 1, hall.places(whole));
        }
        for (int slot = 0; slot < 8; slot++) {
            Check.due("slot " + slot, 0, hall.roleOf(slot));
        }
        Check.due("state of a", true, hall.stateOf(0) != 0);
        Check.due("state of b", true, hall.stateOf(1) != 0);
        Check.due("state of c", 0, hall.stateOf(2));
        Check.due("b goes on", 1, hall.send(1, 0));
    }

    private static void restoreRunAndMonitor() {
        Handshakewarden hall = Check.hallOf("loop x a>b{3:x,4:end}", "a>b{5:end}");
        hall.begin(0, 3);
        hall.send(0, 3);
        hall.send(0, 3);
        hall.letter(0, 1, 3);
        hall.letter(1, 0, 3);
        hall.image(1);
        hall.send(0, 4);
        hall.hear(1);
        hall.hear(1);
        hall.hear(1);
        hall.begin(1, 1);
        hall.letter(0, 1, 5);
        hall.restore(1);
        Check.due("sent", 2, hall.sent());
        Check.due("queue", 2, hall.queue(0, 1));
        Check.due("letters", 3, hall.queueAt(0, 1, 1));
        Check.due("state", 0, hall.stateOf(0));
        Check.due("fault", 1, hall.blame(1));
        Check.due("right ones", 1, hall.blame(0));
        Check.due("bound", 3, hall.send(0, 3));
        Check.dueIllegalState("bound", () -> hall.send(0, 3));
        Check.due("behind the fault", false, hall.letter(0, 1, 3));
        hall.restore(1);
        Check.due("an image does not go on with the run", 2, hall.queue(0, 1));
        hall.begin(0, 3);
        hall.letter(0, 1, 4);
        hall.image(0);
        hall.begin(0, 3);
        hall.restore(0);
        Check.due("the monitor's states", false, hall.letter(0, 1, 3));
        Check.due("the monitor's count", 1, hall.blame(0));
        hall.part(1, 0, 0);
        hall.begin(0, 1);
        hall.put(0);
        hall.image(0);
        hall.begin(0, 1);
        hall.restore(0);
        Check.due("the parts of the run", 1, hall.send(0, 5));
    }

    private static void restoreNoRun() {
        Handshakewarden hall = Check.hallOf("a>b{0:end}");
        hall.image(0);
        hall.begin(0, 1);
        hall.send(0, 0);
        hall.letter(1, 0, 0);
        hall.restore(0);
        Check.due("no run", -1, hall.stands());
        Check.due("nothing sent", 0, hall.sent());
        Check.due("no letters", 0, hall.queue(0, 1));
        Check.due("no fault", -1, hall.blame(1));
        Check.dueOutOfBounds("no run", () -> hall.stateOf(0));
        Check.dueIllegalState("no run", () -> hall.letter(0, 1, 0));
    }

    private static void whatStays() {
        Handshakewarden hall = Check.hallOf("a>b{0:end}");
        hall.image(0);
        Check.write(hall, "a>b{0:end}}");
        Check.dueIllegalArgument("an error", () -> hall.read(1));
        Check.write(hall, "end");
        hall.image(1);
        hall.restore(0);
        Check.due("the error position stays", 10, hall.errorPosition());
        Check.due("the tape stays", 3, hall.append(0, 0, 0, 0, 0));
        Check.due("the other image stays", 5, hall.restore(1));
        Check.due("the tape stays", 3, hall.clearTape());
    }

    private static void wrongNumbers() {
        Handshakewarden hall = Check.hallOf("a>b{0:end}");
        for (int wrong : new int[] {-1, 2, 3}) {
            Check.dueIllegalArgument("image", () -> hall.image(wrong));
            Check.dueIllegalArgument("restore", () -> hall.restore(wrong));
        }
        Check.dueNoSuchElement("none was kept", () -> hall.restore(0));
        hall.image(1);
        Check.dueNoSuchElement("none was kept there", () -> hall.restore(0));
        Check.due("one was kept there", 5, hall.restore(1));
    }

    private static int sumOf(int... numbers) {
        int sum = 17;
        for (int number : numbers) {
            sum = 31 * sum + number;
        }
        return sum;
    }

    private static void checksum() {
        Handshakewarden hall = new Handshakewarden();
        Check.due("new", sumOf(1, 1, 1, 1, 1, 1, 1, 1, 1, 1, 1, 1), hall.checksum());
        Check.read(hall, 1, "b>f{0:f>d{1:end}}");
        Check.due("wholes", sumOf(1, 3, 1, 1, 1, 1, 1, 1, 1, 1, 1, 1), hall.checksum());
        hall.part(1, 5, 6);
        Check.due("slots", sumOf(1, 3, 1, 1, 1, 1, 1, 1, 1, 1, 3, 1), hall.checksum());
        hall.begin(1, 1);
        Check.due("roles", sumOf(1, 3, 1, 1, 1, 1, 1, 1, 1, 1, 3, 1, 0, 0, 0), hall.checksum());
        hall.send(1, 0);
        Check.due("b's state", sumOf(1, 3, 1, 1, 1, 1, 1, 1, 1, 1, 3, 1, 1, 0, 0), hall.checksum());
        hall.hear(5);
        hall.send(5, 1);
        Check.due("f's state", sumOf(1, 3, 1, 1, 1, 1, 1, 1, 1, 1, 3, 1, 1, 0, 2), hall.checksum());
        hall.hear(3);
        Check.due("d's state", sumOf(1, 3, 1, 1, 1, 1, 1, 1, 1, 1, 3, 1, 1, 1, 2), hall.checksum());
        Check.read(hall, 2, "a>f{3:end}");
        hall.begin(2, 1);
        hall.send(0, 3);
        Check.due("a's state", sumOf(1, 3, 2, 1, 1, 1, 1, 1, 1, 1, 3, 1, 1, 0), hall.checksum());
        Check.read(hall, 2, "end");
        hall.begin(0, 1);
        Check.due("no role", sumOf(1, 3, 1, 1, 1, 1, 1, 1, 1, 1, 3, 1), hall.checksum());
    }

    private static void meanKinds() {
        Handshakewarden hall = new Handshakewarden();
        Check.due("no LETTER", 0.0, hall.meanKinds());
        Check.read(hall, 0, "(end|end)");
        Check.due("BESIDE is no LETTER", 0.0, hall.meanKinds());
        Check.read(hall, 0, "loop x a>b{0:b>a{1:x,2:end},3:b>a{4:end}}");
        Check.due("of one whole", 5.0 / 3.0, hall.meanKinds());
        Check.read(hall, 3, "(a>b{0:end}|c>d{7:end,8:end,9:end})");
        Check.due("of all wholes", 9.0 / 5.0, hall.meanKinds());
        Check.read(hall, 0, "end");
        Check.due("of another one", 2.0, hall.meanKinds());
    }

    private static void cutShare() {
        Handshakewarden hall = new Handshakewarden();
        Check.due("all", 1.0f, hall.cutShare());
        float[] due = {0.75f, 0.5f, 0.25f, 0.0f};
        for (int whole = 0; whole < 4; whole++) {
            hall.example(2);
            hall.read(whole);
            Check.due("without " + whole, due[whole], hall.cutShare());
        }
        hall.example(1);
        hall.read(2);
        Check.due("one again", 0.25f, hall.cutShare());
    }

    private static void errors() {
        Handshakewarden hall = new Handshakewarden();
        Check.due("new", 0, hall.errors());
        for (int which = 0; which < 5; which++) {
            hall.example(which);
            hall.read(which % 4);
            for (int role = 0; role < 4; role++) {
                int slot = role;
                Check.outcome(() -> hall.part(slot % 4, slot, slot));
                Check.outcome(() -> hall.mirror(slot, slot + 4));
            }
            Check.due("example " + which, 0, hall.errors());
        }
        Check.read(hall, 0, "(loop x a>b{0:x,1:x,2:x}|(loop x c>d{0:x,1:x,2:x,3:x}|loop x e>f{0:x,1:x,2:x,3:x}))");
        Check.due("more than 600 configurations", 0, hall.errors());
    }
}
