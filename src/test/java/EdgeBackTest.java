/** Each sentence on the way back and the monitor that names a boundary case: promises 37 to 39. */
public final class EdgeBackTest {
    private static final int NONE = Handshakewarden.NONE;

    public static void main(String[] args) {
        backTakesWholes0To3();
        backWithoutARun();
        backOfNobody();
        backFromTheBeginningOn();
        backByTheLeastSender();
        backWithTheKindsOfTheSend();
        backEndsWithAllAtEnd();
        backOfTheSameStates();
        backOfAtMost40Places();
        backThatCannotBeMade();
        letterTakesRoles0To5();
        letterTakesKinds0To9();
        letterToItself();
        letterWithoutARun();
        letterOfTheSender();
        letterOfTheReceiver();
        rightLettersGoOn();
        firstLetterThatIsNotRight();
        monitorHasStatesOfItsOwn();
        beginAndPutBeginItAnew();
        blameTakesWhats0And1();
        Check.end("EdgeBackTest");
    }

    private static Handshakewarden mixed(String text, Object... roleAndText) {
        Handshakewarden hall = Check.hallOf(text);
        hall.begin(0, 1);
        for (int i = 0; i < roleAndText.length; i += 2) {
            Check.read(hall, 1, (String) roleAndText[i + 1]);
            hall.part(1, (Integer) roleAndText[i], 0);
            hall.put(0);
        }
        return hall;
    }

    private static void backTakesWholes0To3() {
        Handshakewarden hall = Check.hallOf("a>b{0:b>a{0:end}}");
        hall.begin(0, 1);
        for (int whole = 0; whole < 4; whole++) {
            Check.due("back(" + whole + ")", 3, hall.back(whole));
            Check.due("places(" + whole + ")", 3, hall.places(whole));
            Check.due("only this one", whole < 3 ? 1 : 3, hall.places(3));
        }
        for (int wrong : new int[] {-1, 4, Integer.MIN_VALUE, Integer.MAX_VALUE}) {
            Check.dueIllegalArgument("back(" + wrong + ")", () -> hall.back(wrong));
        }
    }

    /** "IllegalStateException if no run was begun"; a whole out of range comes ahead of it. */
    private static void backWithoutARun() {
        Handshakewarden hall = Check.hallOf("a>b{0:end}");
        Check.dueIllegalState("no run", () -> hall.back(0));
        Check.dueIllegalArgument("whole 4", () -> hall.back(4));
        Check.dueIllegalArgument("whole -1", () -> hall.back(-1));
        Check.due("the whole stays", 2, hall.places(0));
    }

    /** "if there is no pair, all must be at END": all of no role are. */
    private static void backOfNobody() {
        Handshakewarden hall = mixed("end");
        Check.due("END", 1, hall.back(3));
        Check.due("its sort", 0, hall.placeAt(3, 0, 0));
        Handshakewarden ends = mixed("a>b{0:end}", 0, "end", 1, "end");
        Check.due("END of two", 1, ends.back(0));
        Check.due("its sort", 0, ends.placeAt(0, 0, 0));
        Check.due("its roles", 0, ends.roles(0));
    }

    /** "(from its beginning on)": "at its first place all roles are at their first states". */
    private static void backFromTheBeginningOn() {
        Handshakewarden hall = mixed("a>b{0:b>a{9:end}}");
        hall.send(0, 0);
        hall.hear(1);
        hall.send(1, 9);
        Check.due("three places", 3, hall.back(2));
        Check.due("the first one", 1, hall.placeAt(2, 0, 3));
        Check.due("the next one", 512, hall.placeAt(2, 1, 3));
        Check.due("END", 0, hall.placeAt(2, 2, 0));
        Check.due("the run stays", 1, hall.queue(1, 0));
        Check.due("the first whole stays", true, hall.areAlike(0, 2));
    }

    /** "of all pairs of a role at SEND and the role to which it sends, at HEAR from it, that with the least sender". */
    private static void backByTheLeastSender() {
        Handshakewarden hall = mixed("(e>f{0:end}|(c>d{0:end}|a>b{0:end}))");
        Check.due("four places", 4, hall.back(1));
        for (int place = 0; place < 3; place++) {
            Check.due("sender of " + place, 2 * place, hall.placeAt(1, place, 1));
            Check.due("receiver of " + place, 2 * place + 1, hall.placeAt(1, place, 2));
        }
        Handshakewarden waits = mixed("f>b{0:a>b{0:end}}");
        Check.due("a sends to b, which hears from f first", 3, waits.back(1));
        Check.due("f", 5, waits.placeAt(1, 0, 1));
        Check.due("a", 0, waits.placeAt(1, 1, 1));
    }

    /** "with the kinds of the SEND, each of which must be one of the HEAR". */
    private static void backWithTheKindsOfTheSend() {
        Handshakewarden fewer = mixed("a>b{0:end}", 1, "a>b{0:end,9:end}");
        Check.due("HEAR has more", 2, fewer.back(1));
        Check.due("the kinds", 1, fewer.placeAt(1, 0, 3));
        Check.due("HEAR has one less", NONE, mixed("a>b{0:end}", 0, "a>b{0:end,9:end}").back(1));
        Check.due("HEAR has none of them", NONE, mixed("a>b{0:end}", 0, "a>b{9:end}").back(1));
        Check.due("behind a right place", NONE, mixed("a>b{0:a>b{0:end}}", 0, "a>b{0:a>b{0:end,9:end}}").back(1));
        // Another pair would be right, but that with the least sender is not.
        Check.due("of the least sender alone", NONE, mixed("(a>b{0:end}|c>d{0:end})", 0, "a>b{9:end}").back(1));
        Check.due("of a later sender", NONE, mixed("(a>b{0:end}|c>d{0:end})", 2, "c>d{9:end}").back(1));
    }

    /** "if there is no pair, all must be at END, and the place is END". */
    private static void backEndsWithAllAtEnd() {
        Check.due("both hear", NONE, mixed("a>b{0:end}", 0, "b>a{0:end}").back(1));
        Check.due("one sends to one at END", NONE, mixed("a>b{0:end}", 1, "end").back(1));
        Check.due("one hears from one at END", NONE, mixed("a>b{0:end}", 0, "end").back(1));
        Check.due("both send", NONE, mixed("a>b{0:end}", 1, "b>a{0:end}").back(1));
        Check.due("behind a right place", NONE, mixed("a>b{0:end}", 0, "a>b{0:a>b{0:end}}").back(1));
        Check.due("to one that hears from another", NONE, mixed("a>b{0:b>c{0:end}}", 1, "c>b{0:end}").back(1));
    }

    /** "Places with the same states are one." */
    private static void backOfTheSameStates() {
        Handshakewarden hall = mixed("a>b{0:end,5:end,9:end}");
        Check.due("END is one", 2, hall.back(1));
        Check.due("around", 1, mixed("loop x a>b{0:x,9:x}").back(1));
        // c and d go around for themselves, but a and b are first, and never through.
        Handshakewarden both = mixed("(loop x a>b{0:x}|loop x c>d{0:x})");
        Check.due("the first two alone", 1, both.back(1));
        Check.due("its roles", 3, both.roles(1));
        Handshakewarden apart = mixed("a>b{0:b>a{0:end},1:b>a{0:end}}");
        Check.due("other states are other places", 4, apart.back(1));
        Handshakewarden last = mixed("loop x a>f{0:x}", 5, "loop x a>f{0:a>f{0:a>f{0:x}}}");
        Check.due("other states of f alone", 3, last.back(1));
        Handshakewarden first = mixed("loop x f>a{0:x}", 0, "loop x f>a{0:f>a{0:f>a{0:x}}}");
        Check.due("other states of a alone", 3, first.back(1));
    }

    private static String cycle(int length) {
        return "loop x " + "a>b{0:".repeat(length) + "x" + "}".repeat(length);
    }

    /** "or there would be more than 40 places". */
    private static void backOfAtMost40Places() {
        Handshakewarden forty = mixed(cycle(5), 1, cycle(8));
        Check.due("40", 40, forty.back(2));
        Check.due("40", 40, forty.places(2));
        Check.due("around", 0, forty.next(2, 39, 0));
        Check.due("one letter ahead of 40", NONE, mixed("a>b{0:" + cycle(5) + "}", 1, "a>b{0:" + cycle(8) + "}").back(2));
        Check.due("35", 35, mixed(cycle(5), 1, cycle(7)).back(2));
        Check.due("36", 36, mixed("a>b{0:" + cycle(5) + "}", 1, "a>b{0:" + cycle(7) + "}").back(2));
        Check.due("42", NONE, mixed(cycle(6), 1, cycle(7)).back(2));
        // One END ahead of which there are 39 places, and one more.
        String tree = "a>b{0:b>a{0:end,1:end,2:end},1:b>a{0:end,1:end,2:end},2:b>a{0:end}}";
        Check.due("with END", 5, mixed(tree).back(3));
    }

    /** "NONE, and nothing is different, if it cannot be made". */
    private static void backThatCannotBeMade() {
        Handshakewarden hall = mixed("a>b{0:b>a{0:end}}", 0, "b>a{0:end}");
        hall.letter(1, 0, 0);
        int sum = hall.checksum();
        for (int whole = 0; whole < 4; whole++) {
            Check.due("back(" + whole + ")", NONE, hall.back(whole));
        }
        Check.due("wholes, slots and states stay", sum, hall.checksum());
        Check.due("whole 0 stays", 3, hall.places(0));
        Check.due("the monitor stays", 1, hall.blame(1));
    }

    /** "if from, to or kind is out of range". */
    private static void letterTakesRoles0To5() {
        Handshakewarden hall = Check.hallOf("a>f{0:end}", "f>a{0:end}");
        hall.begin(0, 1);
        for (int wrong : new int[] {-1, 6, 32, Integer.MIN_VALUE, Integer.MAX_VALUE}) {
            Check.dueIllegalArgument("from " + wrong, () -> hall.letter(wrong, 5, 0));
            Check.dueIllegalArgument("to " + wrong, () -> hall.letter(0, wrong, 0));
            Check.dueIllegalArgument("both " + wrong, () -> hall.letter(wrong, wrong, 0));
        }
        Check.due("they were not told", NONE, hall.blame(0));
        Check.due("from 0 to 5", true, hall.letter(0, 5, 0));
        hall.begin(1, 1);
        Check.due("from 5 to 0", true, hall.letter(5, 0, 0));
    }

    private static void letterTakesKinds0To9() {
        Handshakewarden hall = Check.hallOf("loop x a>b{0:x,1:x,2:x,3:x,4:x,5:x,6:x,7:x,8:x,9:x}");
        hall.begin(0, 1);
        for (int kind = 0; kind < 10; kind++) {
            Check.due("kind " + kind, true, hall.letter(0, 1, kind));
        }
        for (int wrong : new int[] {-1, 10, Integer.MIN_VALUE, Integer.MAX_VALUE}) {
            Check.dueIllegalArgument("kind " + wrong, () -> hall.letter(0, 1, wrong));
        }
        Check.due("they were not told", NONE, hall.blame(0));
        hall.letter(1, 0, 0);
        Check.due("ten were right", 10, hall.blame(0));
        Check.dueIllegalArgument("kind behind a fault", () -> hall.letter(0, 1, 10));
    }

    /** "or from and to are the same". */
    private static void letterToItself() {
        Handshakewarden hall = Check.hallOf("a>b{0:end}");
        for (int turn = 0; turn < 2; turn++) {
            for (int role = 0; role < 6; role++) {
                int same = role;
                Check.dueIllegalArgument("to itself", () -> hall.letter(same, same, 0));
            }
            hall.begin(0, 1);
        }
        Check.due("they were not told", NONE, hall.blame(0));
    }

    /** "IllegalStateException if no run was begun". */
    private static void letterWithoutARun() {
        Handshakewarden hall = Check.hallOf("a>b{0:end}");
        Check.dueIllegalState("no run", () -> hall.letter(0, 1, 0));
        Check.dueIllegalArgument("from ahead of it", () -> hall.letter(6, 1, 0));
        Check.dueIllegalArgument("to ahead of it", () -> hall.letter(0, -1, 0));
        Check.dueIllegalArgument("kind ahead of it", () -> hall.letter(0, 1, 10));
        Check.due("no fault", NONE, hall.blame(1));
        hall.image(0);
        hall.begin(0, 1);
        hall.restore(0);
        Check.dueIllegalState("no run again", () -> hall.letter(0, 1, 0));
    }

    private static void fault(Handshakewarden hall, int from, int to, int kind, int whose) {
        int right = hall.blame(0);
        Check.due("no fault yet", NONE, right);
        Check.due(from + " to " + to + ", " + kind, false, hall.letter(from, to, kind));
        Check.due("whose fault", whose, hall.blame(1));
    }

    /** "the sender's, if it is not at SEND to this receiver with this kind". */
    private static void letterOfTheSender() {
        fault(mixed("a>b{0:end}"), 0, 1, 9, 0);
        fault(mixed("a>b{0:end}"), 0, 2, 0, 0);
        fault(mixed("a>b{0:end}"), 1, 0, 0, 1);
        fault(mixed("a>b{0:b>a{0:end}}"), 1, 0, 0, 1);
        fault(mixed("a>b{0:end}", 0, "end"), 0, 1, 0, 0);
        fault(mixed("b>c{0:end}"), 0, 5, 9, 0);
        fault(mixed("end"), 5, 4, 0, 5);
        // Neither one stands so: it is the sender's.
        fault(mixed("a>b{0:end}", 0, "b>a{0:end}"), 0, 1, 0, 0);
    }

    /** "otherwise the receiver's". */
    private static void letterOfTheReceiver() {
        fault(mixed("a>b{0:end}", 0, "a>b{9:end}"), 0, 1, 9, 1);
        fault(mixed("a>b{0:end}", 1, "b>a{0:end}"), 0, 1, 0, 1);
        fault(mixed("a>b{0:end}", 1, "c>b{0:end}"), 0, 1, 0, 1);
        fault(mixed("a>b{0:end}", 1, "end"), 0, 1, 0, 1);
        fault(mixed("a>b{0:end}", 0, "a>f{0:end}"), 0, 5, 0, 5);
        fault(mixed("c>b{0:a>b{0:end}}"), 0, 1, 0, 1);
    }

    /** "then both go on"; "from the beginning of a run on". */
    private static void rightLettersGoOn() {
        Handshakewarden hall = mixed("loop x a>b{0:b>a{0:x,1:end}}");
        for (int round = 0; round < 100; round++) {
            Check.due("there", true, hall.letter(0, 1, 0));
            Check.due("and back", true, hall.letter(1, 0, round < 99 ? 0 : 1));
        }
        Check.due("no fault", NONE, hall.blame(0));
        Check.due("behind END", false, hall.letter(0, 1, 0));
        Check.due("right ones", 200, hall.blame(0));
        Check.due("a's fault", 0, hall.blame(1));
    }

    /** "The first letter that is not right is kept"; "Behind it nothing is looked at any more." */
    private static void firstLetterThatIsNotRight() {
        Handshakewarden hall = mixed("a>b{0:b>a{0:end}}");
        Check.due("right", true, hall.letter(0, 1, 0));
        Check.due("not right, by a", false, hall.letter(0, 1, 0));
        Check.due("would be right", false, hall.letter(1, 0, 0));
        Check.due("not right, by b", false, hall.letter(1, 0, 9));
        Check.due("not right, by f", false, hall.letter(5, 0, 9));
        Check.due("one was right", 1, hall.blame(0));
        Check.due("a's fault", 0, hall.blame(1));
        fault(mixed("a>b{0:b>a{0:end}}"), 5, 4, 0, 5);
    }

    /** "(The monitor has states of its own ...)". */
    private static void monitorHasStatesOfItsOwn() {
        Handshakewarden hall = mixed("a>b{0:a>b{1:end}}");
        Check.due("told", true, hall.letter(0, 1, 0));
        Check.due("a is at its first state still", 0, hall.stateOf(0));
        Check.due("b, too", 0, hall.stateOf(1));
        Check.due("nothing is on the way", 0, hall.queue(0, 1));
        Check.due("a sends its first letter", 1, hall.send(0, 0));
        hall.hear(1);
        Check.due("the monitor is at the second one", true, hall.letter(0, 1, 1));
        Check.due("the run is not at END", 0, hall.stands());
        Check.due("right ones alone are no fault", NONE, hall.blame(0));
    }

    /** "beginning a run, and giving a role another part, begins it anew". */
    private static void beginAndPutBeginItAnew() {
        Handshakewarden hall = Check.hallOf("a>b{0:a>b{1:end}}", "a>b{9:end}", "a>b{0:end,1:b>c{0:end}}");
        hall.part(1, 0, 0);
        hall.part(1, 1, 1);
        hall.part(1, 5, 2);
        hall.begin(0, 1);
        hall.letter(0, 1, 0);
        hall.begin(0, 1);
        Check.due("begin: from the beginning on", true, hall.letter(0, 1, 0));
        hall.letter(0, 1, 0);
        Check.due("a fault", 1, hall.blame(0));
        Check.dueIllegalState("a begin that is refused", () -> hall.begin(2, 1));
        Check.dueIllegalState("a put that is refused", () -> hall.put(2));
        Check.due("the fault stays", 1, hall.blame(0));
        hall.begin(0, 1);
        Check.due("begin: no fault", NONE, hall.blame(0));
        hall.letter(0, 1, 0);
        hall.put(0);
        Check.due("put: with the part it has then", false, hall.letter(0, 1, 0));
        Check.due("put: none was right", 0, hall.blame(0));
        hall.put(1);
        Check.due("put: no fault", NONE, hall.blame(1));
        Check.due("put: both parts", true, hall.letter(0, 1, 9));
        hall.letter(0, 1, 9);
        Check.due("one was right", 1, hall.blame(0));
    }

    /** "what: 0 how many right ones were told ahead of it, 1 whose fault it is"; "NONE if there is none". */
    private static void blameTakesWhats0And1() {
        Handshakewarden hall = Check.hallOf("a>b{0:end}");
        for (int wrong : new int[] {-1, 2, Integer.MIN_VALUE, Integer.MAX_VALUE}) {
            Check.dueIllegalArgument("what " + wrong, () -> hall.blame(wrong));
        }
        Check.due("no run", NONE, hall.blame(0));
        Check.due("no run", NONE, hall.blame(1));
        hall.begin(0, 1);
        Check.due("no letter", NONE, hall.blame(0));
        hall.letter(2, 0, 0);
        Check.due("none was right", 0, hall.blame(0));
        Check.due("c's fault", 2, hall.blame(1));
        Check.due("a question", 0, hall.blame(0));
        for (int wrong : new int[] {-1, 2}) {
            Check.dueIllegalArgument("what " + wrong, () -> hall.blame(wrong));
        }
    }
}
