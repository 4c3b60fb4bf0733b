/** Promises 37 to 39: back, letter, blame. */
public final class BackMonitorTest {
    private static final int NONE = Handshakewarden.NONE;

    public static void main(String[] args) {
        backOfItself();
        backOfBeside();
        backOfTheLeastSender();
        backThatIsNot();
        backOfForty();
        backIsANewWhole();
        lettersThatAreRight();
        faultOfTheSender();
        faultOfTheReceiver();
        onlyTheFirstFault();
        monitorBeginsAnew();
        wrongNumbers();
        Check.end("BackMonitorTest");
    }

    private static void backOfItself() {
        String[] texts = {
            "end", "a>b{0:end}", "loop x a>b{0:b>c{1:x},2:b>c{3:end}}",
            "a>b{0:a>c{0:b>c{1:end}},1:a>c{1:c>b{2:end}}}",
            "loop x a>b{0:b>a{1:x,2:end},3:b>a{4:end}}", "loop x f>e{9:x}"
        };
        int[] places = {1, 2, 4, 6, 4, 1};
        for (int i = 0; i < texts.length; i++) {
            Handshakewarden hall = Check.hallOf(texts[i]);
            hall.begin(0, 1);
            Check.due("back of " + texts[i], places[i], hall.back(3));
            Check.due("alike to " + texts[i], true, hall.areAlike(0, 3));
        }
    }

    private static void backOfBeside() {
        Handshakewarden hall = Check.hallOf("(a>b{0:end}|loop y c>d{1:y,2:d>c{3:end}})",
                "a>b{0:loop y c>d{1:y,2:d>c{3:end}}}", "(c>d{5:end}|a>b{6:end})", "a>b{6:c>d{5:end}}");
        hall.begin(0, 1);
        Check.due("one behind the other", 4, hall.back(0));
        Check.due("the least sender first", true, hall.areAlike(0, 1));
        hall.begin(2, 1);
        Check.due("the least sender first", 3, hall.back(0));
        Check.due("though it stands on the right", true, hall.areAlike(0, 3));
    }

    private static void backOfTheLeastSender() {
        // c may send at once; a and b only behind it.
        Handshakewarden hall = Check.hallOf("c>b{0:a>b{1:end}}", "b>d{0:a>c{0:end},1:a>c{0:end}}");
        hall.begin(0, 1);
        Check.due("a waits until b hears from it", 3, hall.back(2));
        Check.due("c is first", 2, hall.placeAt(2, 0, 1));
        Check.due("a is next", 0, hall.placeAt(2, 1, 1));
        hall.begin(1, 1);
        Check.due("a does not wait for b", 3, hall.back(2));
        Check.due("a is first", 0, hall.placeAt(2, 0, 1));
        Check.due("b is next", 1, hall.placeAt(2, 1, 1));
        Check.due("both kinds of it", 3, hall.placeAt(2, 1, 3));
        Check.due("places with the same states are one", 2, hall.next(2, 1, 0));
        Check.due("places with the same states are one", 2, hall.next(2, 1, 1));
    }

    private static Handshakewarden mixed(String text, int role, String other) {
        Handshakewarden hall = Check.hallOf(text, other);
        hall.part(1, role, 0);
        hall.begin(0, 1);
        hall.put(0);
        return hall;
    }

    private static void backThatIsNot() {
        Handshakewarden hall = mixed("a>b{0:end}", 0, "a>b{0:end,1:end}");
        Check.due("a kind that is not heard", NONE, hall.back(0));
        Check.due("the whole stays", 1, hall.placeAt(0, 0, 3));
        hall = mixed("a>b{0:end}", 1, "a>b{0:end,1:end}");
        Check.due("a kind more is heard", 2, hall.back(1));
        Check.due("the kinds of the SEND", 1, hall.placeAt(1, 0, 3));
        hall = mixed("a>b{0:end}", 0, "b>a{0:end}");
        Check.due("both hear", NONE, hall.back(0));
        hall = mixed("a>b{0:end}", 0, "a>b{0:a>b{1:end}}");
        Check.due("one is at END, one is not", NONE, hall.back(0));
        hall = mixed("a>b{0:end}", 0, "a>c{0:end}");
        Check.due("to a role that does not stand in it", NONE, hall.back(0));
        hall = mixed("a>b{0:b>c{0:end}}", 2, "a>c{0:end}");
        Check.due("it fails somewhere behind", NONE, hall.back(3));
        Check.due("the whole stays", 1, hall.places(3));
    }

    /** Cycles of two lengths: so many places as their least common multiple tells. */
    private static void backOfForty() {
        Handshakewarden hall = mixed(cycle(5), 1, cycle(8));
        Check.due("40 places", 40, hall.back(2));
        Check.due("40 places", 40, hall.places(2));
        Check.due("the last one leads to the first one", 0, hall.next(2, 39, 0));
        Check.due("alike", true, hall.areAlike(2, 0));
        hall = mixed(cycle(6), 1, cycle(7));
        Check.due("42 places", NONE, hall.back(2));
        Check.due("the whole stays", 1, hall.places(2));
        hall = mixed(cycle(6), 1, cycle(8));
        Check.due("24 places", 24, hall.back(2));
        hall.begin(2, 1);
        Check.due("a whole that was woven is cut, too", 24, hall.back(1));
        Check.due("one letter more is one place more than 40", NONE, mixed("a>b{0:" + cycle(5) + "}", 1,
                "a>b{0:" + cycle(8) + "}").back(2));
    }

    private static String cycle(int length) {
        return "loop x " + "a>b{0:".repeat(length) + "x" + "}".repeat(length);
    }

    private static void backIsANewWhole() {
        Handshakewarden hall = Check.hallOf("a>b{0:end}", "a>b{0:a>b{1:end}}");
        Check.dueIllegalState("no run", () -> hall.back(0));
        Check.dueIllegalArgument("whole", () -> hall.back(-1));
        Check.dueIllegalArgument("whole", () -> hall.back(4));
        hall.begin(1, 2);
        hall.send(0, 0);
        Check.due("from the beginning on", 3, hall.back(0));
        Check.due("places", 3, hall.places(0));
        Check.due("roles", 3, hall.roles(0));
        Check.due("the run stays", 1, hall.stateOf(0));
        Check.due("the run stays", 1, hall.queue(0, 1));
        Check.due("cut", 2, hall.cut(0));
        Check.due("part", 3, hall.part(0, 0, 0));
    }

    private static void lettersThatAreRight() {
        Handshakewarden hall = Check.hallOf("(loop x a>b{0:b>a{1:x},2:end}|c>d{3:end})");
        hall.begin(0, 1);
        Check.due("c to d", true, hall.letter(2, 3, 3));
        for (int round = 0; round < 3; round++) {
            Check.due("a to b", true, hall.letter(0, 1, 0));
            Check.due("b to a", true, hall.letter(1, 0, 1));
        }
        Check.due("a to b", true, hall.letter(0, 1, 2));
        Check.due("blame(0)", NONE, hall.blame(0));
        Check.due("blame(1)", NONE, hall.blame(1));
        Check.due("the run goes by itself", 0, hall.stateOf(0));
        Check.due("nothing was sent in it", 0, hall.sent());
        Check.due("no letter behind END", false, hall.letter(0, 1, 0));
        Check.due("right ones ahead of it", 8, hall.blame(0));
        Check.due("a's fault", 0, hall.blame(1));
    }

    private static void fault(String text, int from, int to, int kind, int whose) {
        Handshakewarden hall = Check.hallOf(text);
        hall.begin(0, 1);
        String name = text + ": " + from + " to " + to + ", " + kind;
        Check.due(name, false, hall.letter(from, to, kind));
        Check.due("right ones ahead of " + name, 0, hall.blame(0));
        Check.due("fault of " + name, whose, hall.blame(1));
    }

    private static void faultOfTheSender() {
        fault("a>b{0:end}", 0, 1, 1, 0);
        fault("a>b{0:end}", 1, 0, 0, 1);
        fault("a>b{0:end}", 0, 2, 0, 0);
        fault("a>b{0:end}", 5, 1, 0, 5);
        fault("a>b{0:end}", 2, 3, 0, 2);
        fault("a>b{0:b>c{0:end}}", 1, 2, 0, 1);
        fault("end", 4, 3, 9, 4);
    }

    private static void faultOfTheReceiver() {
        // a and c may both send to b, which hears from a first.
        fault("a>b{0:c>b{1:end}}", 2, 1, 1, 1);
        Handshakewarden hall = mixed("a>b{0:end}", 1, "a>b{1:end}");
        Check.due("a kind that b does not hear", false, hall.letter(0, 1, 0));
        Check.due("b's fault", 1, hall.blame(1));
        hall = mixed("a>b{0:end}", 0, "a>f{0:end}");
        Check.due("f does not stand in the run", false, hall.letter(0, 5, 0));
        Check.due("f's fault", 5, hall.blame(1));
        hall = mixed("a>b{0:end}", 1, "b>a{0:end}");
        Check.due("b is at SEND", false, hall.letter(0, 1, 0));
        Check.due("b's fault", 1, hall.blame(1));
    }

    private static void onlyTheFirstFault() {
        Handshakewarden hall = Check.hallOf("a>b{0:b>a{1:a>b{2:end}}}");
        hall.begin(0, 1);
        Check.due("right", true, hall.letter(0, 1, 0));
        Check.due("not right", false, hall.letter(0, 1, 0));
        Check.due("right but behind it", false, hall.letter(1, 0, 1));
        Check.due("not right again", false, hall.letter(1, 0, 5));
        Check.due("right ones ahead of the first", 1, hall.blame(0));
        Check.due("fault of the first", 0, hall.blame(1));
    }

    private static void monitorBeginsAnew() {
        Handshakewarden hall = Check.hallOf("a>b{0:a>b{1:end}}", "a>b{5:end}", "b>a{5:end}",
                "a>b{0:b>c{1:end},1:c>b{2:end}}");
        hall.begin(0, 1);
        hall.letter(0, 1, 0);
        hall.letter(0, 1, 0);
        hall.begin(0, 1);
        Check.due("begin: no fault", NONE, hall.blame(1));
        Check.due("begin: from the beginning on", true, hall.letter(0, 1, 0));
        hall.part(1, 0, 0);
        hall.part(1, 1, 1);
        hall.put(0);
        Check.due("put: from the beginning on", false, hall.letter(0, 1, 1));
        hall.put(1);
        Check.due("put: no fault", NONE, hall.blame(0));
        Check.due("put: with the parts that the run has", true, hall.letter(0, 1, 5));
        Check.due("put: to the end", false, hall.letter(0, 1, 5));
        Check.dueIllegalState("a begin that cannot be", () -> hall.begin(3, 1));
        hall.part(0, 5, 7);
        Check.dueIllegalState("a put that cannot be", () -> hall.put(7));
        Check.due("the fault stays", 1, hall.blame(0));
        Check.due("sending does not tell the monitor", 1, hall.send(0, 5));
        Check.due("the fault stays", 0, hall.blame(1));
    }

    private static void wrongNumbers() {
        Handshakewarden hall = Check.hallOf("a>b{0:end}");
        Check.dueIllegalState("no run", () -> hall.letter(0, 1, 0));
        Check.due("no run, no fault", NONE, hall.blame(0));
        for (int turn = 0; turn < 2; turn++) {
            for (int wrong : new int[] {-1, 6}) {
                Check.dueIllegalArgument("from", () -> hall.letter(wrong, 1, 0));
                Check.dueIllegalArgument("to", () -> hall.letter(0, wrong, 0));
            }
            Check.dueIllegalArgument("kind", () -> hall.letter(0, 1, 10));
            Check.dueIllegalArgument("kind", () -> hall.letter(0, 1, -1));
            Check.dueIllegalArgument("to itself", () -> hall.letter(1, 1, 0));
            Check.dueIllegalArgument("what", () -> hall.blame(2));
            Check.dueIllegalArgument("what", () -> hall.blame(-1));
            hall.begin(0, 1);
        }
        Check.due("no wrong number is a fault", NONE, hall.blame(0));
        hall.letter(1, 0, 0);
        Check.dueIllegalArgument("to itself behind a fault", () -> hall.letter(1, 1, 0));
    }
}
