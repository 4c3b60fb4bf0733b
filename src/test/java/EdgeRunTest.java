/** Each sentence on a run that names a boundary case: promises 24 to 32. */
public final class EdgeRunTest {
    private static final int NONE = Handshakewarden.NONE;
    private static final int[] FAR = {Integer.MIN_VALUE, -1, 6, 31, 32, 33, Integer.MAX_VALUE};

    public static void main(String[] args) {
        beginTakesWholes0To3();
        beginTakesBounds1To5();
        beginCountsRoles();
        beginsAtFirstStates();
        beginInPlaceOfTheOneBefore();
        beginRefused();
        putTakesSlots0To7();
        putWithoutARun();
        putAsLongAsNothingWasSent();
        putOfARoleThatDoesNotStand();
        putStaysInTheRun();
        sendNeedsARoleOfTheRun();
        sendTakesKinds0To9();
        sendAtSendWithThisKind();
        sendAsLongAsThereIsRoom();
        sendCountsTheQueue();
        sendRefused();
        hearNeedsARoleOfTheRun();
        hearAtHear();
        hearOfAnEmptyQueue();
        hearTheFirstLetter();
        hearOfALetterNotKnown();
        stateOfARoleOfTheRun();
        queueOfRoles0To5();
        queueAtFrom0On();
        standsWithoutARun();
        standsOverOrNot();
        standsStuck();
        standsLeft();
        sentCountsLetters();
        Check.end("EdgeRunTest");
    }

    /** A run of the first text; the role gets its part of the second one. */
    private static Handshakewarden mixed(String text, int bound, int role, String other) {
        Handshakewarden hall = Check.hallOf(text, other);
        hall.part(1, role, 0);
        hall.begin(0, bound);
        hall.put(0);
        return hall;
    }

    private static void beginTakesWholes0To3() {
        Handshakewarden hall = Check.hallOf("a>b{0:end}", "a>b{0:b>c{0:end}}", "end", "(a>b{0:end}|c>d{0:end})");
        int[] roles = {2, 3, 0, 4};
        for (int whole = 0; whole < 4; whole++) {
            Check.due("begin(" + whole + ")", roles[whole], hall.begin(whole, 1));
        }
        for (int wrong : new int[] {-1, 4, Integer.MIN_VALUE, Integer.MAX_VALUE}) {
            Check.dueIllegalArgument("begin(" + wrong + ")", () -> hall.begin(wrong, 1));
        }
        Check.due("the run stays", 0, hall.stateOf(3));
    }

    /** "a bound, 1 to 5". */
    private static void beginTakesBounds1To5() {
        Handshakewarden hall = Check.hallOf("loop x a>b{0:x}");
        for (int bound = 1; bound <= 5; bound++) {
            int most = bound;
            Check.due("bound " + most, 2, hall.begin(0, most));
            for (int letter = 1; letter <= most; letter++) {
                Check.due("letter " + letter, letter, hall.send(0, 0));
            }
            Check.dueIllegalState("one more than " + most, () -> hall.send(0, 0));
        }
        for (int wrong : new int[] {0, 6, -1, Integer.MIN_VALUE, Integer.MAX_VALUE}) {
            Check.dueIllegalArgument("bound " + wrong, () -> hall.begin(0, wrong));
        }
        Check.due("the run stays", 5, hall.queue(0, 1));
    }

    /** "Returns how many roles it has." */
    private static void beginCountsRoles() {
        String[] texts = {"end", "a>f{0:end}", "a>b{0:b>c{0:end}}", "(a>b{0:end}|c>d{0:end})",
            "a>b{0:(a>c{0:end}|d>e{0:end})}", "(a>b{0:end}|(c>d{0:end}|e>f{0:end}))"};
        int[] due = {0, 2, 3, 4, 5, 6};
        for (int i = 0; i < texts.length; i++) {
            Check.due("roles of " + texts[i], due[i], Check.hallOf(texts[i]).begin(0, 1));
        }
    }

    /** "each role that stands in it begins at the first state of its part, and all queues ... are empty". */
    private static void beginsAtFirstStates() {
        Handshakewarden hall = Check.hallOf("a>b{0:b>c{0:c>d{0:d>e{0:e>f{0:end}}}}}");
        hall.begin(0, 5);
        for (int role = 0; role < 6; role++) {
            Check.due("state of " + role, 0, hall.stateOf(role));
            for (int to = 0; to < 6; to++) {
                Check.due("letters from " + role + " to " + to, 0, hall.queue(role, to));
            }
        }
        Check.due("nothing sent", 0, hall.sent());
        Check.due("it goes on", 0, hall.stands());
    }

    /** "Begins a run, in place of the one before." */
    private static void beginInPlaceOfTheOneBefore() {
        Handshakewarden hall = Check.hallOf("loop x a>b{0:x}", "c>d{0:end}");
        hall.begin(0, 5);
        hall.send(0, 0);
        hall.letter(1, 0, 0);
        Check.due("another one", 2, hall.begin(1, 1));
        Check.dueOutOfBounds("a is away", () -> hall.stateOf(0));
        Check.due("its letters are away", 0, hall.queue(0, 1));
        Check.due("nothing sent", 0, hall.sent());
        Check.due("no fault", NONE, hall.blame(0));
        hall.begin(0, 1);
        Check.due("the same one again", 1, hall.send(0, 0));
        hall.begin(0, 1);
        Check.due("and again", 1, hall.send(0, 0));
    }

    /** "IllegalStateException if the whole cannot be cut". */
    private static void beginRefused() {
        Handshakewarden hall = Check.hallOf("a>b{0:end,1:b>c{0:end}}", "a>b{0:end}");
        Check.dueIllegalState("without a run before", () -> hall.begin(0, 1));
        Check.due("no run", NONE, hall.stands());
        Check.dueIllegalArgument("bound 0 ahead of it", () -> hall.begin(0, 0));
        Check.dueIllegalArgument("bound 6 ahead of it", () -> hall.begin(0, 6));
        hall.begin(1, 2);
        hall.send(0, 0);
        hall.letter(1, 0, 3);
        Check.dueIllegalState("with a run before", () -> hall.begin(0, 1));
        Check.due("its letters stay", 1, hall.queue(0, 1));
        Check.due("its states stay", 1, hall.stateOf(0));
        Check.due("its monitor stays", 1, hall.blame(1));
        Check.due("what was sent stays", 1, hall.sent());
    }

    private static void putTakesSlots0To7() {
        Handshakewarden hall = Check.hallOf("a>b{0:end}", "a>b{1:end}", "a>b{2:end}");
        for (int slot = 0; slot < 8; slot++) {
            hall.begin(0, 1);
            hall.part(1, 0, slot);
            Check.due("put(" + slot + ")", 0, hall.put(slot));
            Check.due("its letter", 1, hall.send(0, 1));
            hall.part(2, 1, slot);
        }
        hall.begin(0, 1);
        for (int wrong : new int[] {-1, 8, Integer.MIN_VALUE, Integer.MAX_VALUE}) {
            Check.dueIllegalArgument("put(" + wrong + ")", () -> hall.put(wrong));
        }
        Check.due("its own part stays", 1, hall.send(0, 0));
        Check.dueIllegalArgument("slot ahead of what was sent", () -> hall.put(8));
    }

    /** "IllegalStateException if no run was begun". */
    private static void putWithoutARun() {
        Handshakewarden hall = Check.hallOf("a>b{0:end}");
        hall.part(0, 0, 0);
        Check.dueIllegalState("no run", () -> hall.put(0));
        Check.dueIllegalArgument("slot ahead of no run", () -> hall.put(-1));
        Check.due("no run still", NONE, hall.stands());
        hall.image(0);
        hall.begin(0, 1);
        Check.due("a run", 0, hall.put(0));
        hall.restore(0);
        Check.dueIllegalState("no run again", () -> hall.put(0));
    }

    /** "A role of the run can get another part, from a slot, as long as nothing was sent." */
    private static void putAsLongAsNothingWasSent() {
        Handshakewarden hall = Check.hallOf("a>b{0:end}", "a>b{1:end}");
        hall.part(0, 0, 0);
        hall.part(1, 0, 1);
        hall.part(1, 1, 2);
        hall.begin(0, 1);
        Check.due("once", 0, hall.put(1));
        Check.due("again", 0, hall.put(0));
        Check.due("and again", 0, hall.put(1));
        Check.dueIllegalState("a letter that is refused", () -> hall.send(0, 0));
        Check.due("was not sent", 1, hall.put(2));
        hall.letter(0, 1, 1);
        Check.due("a letter told to the monitor was not sent", 0, hall.put(1));
        hall.image(0);
        hall.send(0, 1);
        Check.dueIllegalState("one was sent", () -> hall.put(1));
        Check.dueIllegalState("of the other role, too", () -> hall.put(2));
        hall.hear(1);
        Check.dueIllegalState("and heard", () -> hall.put(2));
        Check.due("it is over", 1, hall.stands());
        hall.restore(0);
        Check.due("ahead of the letter", 1, hall.put(2));
        hall.begin(0, 1);
        Check.due("a new run", 0, hall.put(1));
    }

    /** "or the role does not stand in it". */
    private static void putOfARoleThatDoesNotStand() {
        Handshakewarden hall = Check.hallOf("b>c{0:end}", "a>d{0:end}", "end");
        hall.begin(0, 1);
        for (int role : new int[] {0, 3, 4, 5}) {
            hall.part(1, role, 0);
            Check.dueIllegalState("role " + role, () -> hall.put(0));
        }
        for (int role : new int[] {1, 2}) {
            hall.part(1, role, 0);
            Check.due("role " + role + ", just END", role, hall.put(0));
        }
        Check.due("both are at END", 1, hall.stands());
        hall.begin(2, 1);
        Check.dueIllegalState("nobody stands in it", () -> hall.put(7));
    }

    private static void putStaysInTheRun() {
        Handshakewarden hall = mixed("a>b{0:end}", 5, 0, "a>b{0:a>b{9:end}}");
        hall.part(2, 0, 0);
        Check.read(hall, 1, "end");
        hall.send(0, 0);
        Check.due("another slot and another whole do not matter", 2, hall.send(0, 9));
        Check.due("the bound stays", 2, hall.queue(0, 1));
    }

    /** "IndexOutOfBoundsException if no run was begun, or the role does not stand in it". */
    private static void sendNeedsARoleOfTheRun() {
        Handshakewarden hall = Check.hallOf("b>e{0:end}", "a>f{0:end}");
        for (int role = 0; role < 6; role++) {
            int asked = role;
            Check.dueOutOfBounds("no run", () -> hall.send(asked, 0));
            Check.dueOutOfBounds("no run ahead of kind", () -> hall.send(asked, 10));
        }
        hall.begin(0, 1);
        for (int role : new int[] {0, 2, 3, 5}) {
            Check.dueOutOfBounds("role " + role, () -> hall.send(role, 0));
            Check.dueOutOfBounds("role ahead of kind", () -> hall.send(role, -1));
        }
        for (int role : FAR) {
            Check.dueOutOfBounds("role " + role, () -> hall.send(role, 0));
            Check.dueOutOfBounds("role ahead of kind", () -> hall.send(role, 10));
        }
        Check.due("role 1", 1, hall.send(1, 0));
        hall.begin(1, 1);
        Check.due("role 0", 1, hall.send(0, 0));
        Check.read(hall, 2, "f>a{0:end}");
        hall.begin(2, 1);
        Check.due("role 5", 1, hall.send(5, 0));
    }

    /** "IllegalArgumentException if kind is out of range". */
    private static void sendTakesKinds0To9() {
        String all = "{0:x,1:x,2:x,3:x,4:x,5:x,6:x,7:x,8:x,9:x}";
        Handshakewarden hall = Check.hallOf("loop x a>b" + all);
        hall.begin(0, 1);
        for (int kind = 0; kind < 10; kind++) {
            Check.due("send " + kind, 1, hall.send(0, kind));
            Check.due("it is on the way", kind, hall.queueAt(0, 1, 0));
            Check.due("hear " + kind, kind, hall.hear(1));
        }
        for (int wrong : new int[] {-1, 10, Integer.MIN_VALUE, Integer.MAX_VALUE}) {
            Check.dueIllegalArgument("kind " + wrong, () -> hall.send(0, wrong));
            Check.dueIllegalArgument("kind ahead of HEAR", () -> hall.send(1, wrong));
        }
        hall.send(0, 0);
        Check.dueIllegalArgument("kind ahead of a full queue", () -> hall.send(0, 10));
    }

    /** "IllegalStateException if the role is not at SEND with this kind". */
    private static void sendAtSendWithThisKind() {
        Handshakewarden hall = Check.hallOf("a>b{1:b>a{2:end},8:end}");
        hall.begin(0, 5);
        for (int kind : new int[] {0, 2, 7, 9}) {
            Check.dueIllegalState("not kind " + kind, () -> hall.send(0, kind));
        }
        Check.dueIllegalState("b hears this kind", () -> hall.send(1, 1));
        Check.due("one of its kinds", 1, hall.send(0, 1));
        Check.dueIllegalState("a hears now", () -> hall.send(0, 2));
        hall.hear(1);
        hall.send(1, 2);
        Check.dueIllegalState("b is at END", () -> hall.send(1, 2));
        hall.begin(0, 1);
        Check.due("the other one of its kinds", 1, hall.send(0, 8));
        Check.dueIllegalState("a is at END", () -> hall.send(0, 8));
    }

    /** "or the queue has as many letters as the bound"; each queue has room of its own. */
    private static void sendAsLongAsThereIsRoom() {
        Handshakewarden hall = Check.hallOf("loop x a>b{0:a>c{0:x}}");
        for (int bound = 1; bound <= 5; bound++) {
            hall.begin(0, bound);
            for (int letter = 1; letter <= bound; letter++) {
                Check.due("to b", letter, hall.send(0, 0));
                Check.due("to c", letter, hall.send(0, 0));
            }
            Check.dueIllegalState("to b no more", () -> hall.send(0, 0));
            hall.hear(2);
            Check.dueIllegalState("room to c does not help", () -> hall.send(0, 0));
            hall.hear(1);
            Check.due("room to b does", bound, hall.send(0, 0));
            Check.due("and there was room to c", bound, hall.send(0, 0));
            Check.dueIllegalState("no more", () -> hall.send(0, 0));
        }
    }

    /** "Returns how many letters the queue has then." */
    private static void sendCountsTheQueue() {
        Handshakewarden hall = Check.hallOf("loop x a>b{0:x,1:b>a{0:x}}");
        hall.begin(0, 3);
        Check.due("one", 1, hall.send(0, 0));
        Check.due("two", 2, hall.send(0, 0));
        hall.hear(1);
        Check.due("two again", 2, hall.send(0, 0));
        Check.due("three", 3, hall.send(0, 1));
        hall.hear(1);
        hall.hear(1);
        hall.hear(1);
        Check.due("the other way there is one", 1, hall.send(1, 0));
    }

    private static void sendRefused() {
        Handshakewarden hall = Check.hallOf("loop x a>b{4:a>b{5:x}}");
        hall.begin(0, 1);
        Check.dueIllegalState("not this kind", () -> hall.send(0, 5));
        Check.due("the state stays", 0, hall.stateOf(0));
        hall.send(0, 4);
        Check.dueIllegalState("full", () -> hall.send(0, 5));
        Check.due("the state stays", 1, hall.stateOf(0));
        Check.due("the queue stays", 1, hall.queue(0, 1));
        Check.due("its letter stays", 4, hall.queueAt(0, 1, 0));
        Check.due("it was not sent", 1, hall.sent());
        Check.due("b hears the first one", 4, hall.hear(1));
        Check.due("the second one goes now", 1, hall.send(0, 5));
    }

    private static void hearNeedsARoleOfTheRun() {
        Handshakewarden hall = Check.hallOf("b>e{0:end}");
        for (int role = 0; role < 6; role++) {
            int asked = role;
            Check.dueOutOfBounds("no run", () -> hall.hear(asked));
        }
        hall.begin(0, 1);
        for (int role : new int[] {0, 2, 3, 5}) {
            Check.dueOutOfBounds("role " + role, () -> hall.hear(role));
        }
        for (int role : FAR) {
            Check.dueOutOfBounds("role " + role, () -> hall.hear(role));
        }
        hall.send(1, 0);
        Check.due("role 4", 0, hall.hear(4));
    }

    /** "IllegalStateException if the role is not at HEAR". */
    private static void hearAtHear() {
        Handshakewarden hall = Check.hallOf("a>b{1:a>b{2:end}}");
        hall.begin(0, 2);
        Check.dueIllegalState("at SEND", () -> hall.hear(0));
        hall.send(0, 1);
        Check.dueIllegalState("at SEND", () -> hall.hear(0));
        hall.send(0, 2);
        Check.dueIllegalState("at END", () -> hall.hear(0));
        hall.hear(1);
        Check.due("the last one", 2, hall.hear(1));
        Check.dueIllegalState("at END, ahead of an empty queue", () -> hall.hear(1));
    }

    /** "NoSuchElementException if the queue is empty". */
    private static void hearOfAnEmptyQueue() {
        Handshakewarden hall = Check.hallOf("c>d{0:a>b{0:b>a{0:end}}}");
        hall.begin(0, 5);
        Check.dueNoSuchElement("nothing was sent", () -> hall.hear(1));
        hall.send(2, 0);
        Check.dueNoSuchElement("a letter to another one", () -> hall.hear(1));
        Check.due("the state stays", 0, hall.stateOf(1));
        hall.send(0, 0);
        Check.dueNoSuchElement("the letter goes the other way", () -> hall.hear(0));
        Check.due("now b hears", 0, hall.hear(1));
        Check.dueNoSuchElement("a's queue is empty still", () -> hall.hear(0));
    }

    /** "A role at HEAR can hear the first letter of the queue". */
    private static void hearTheFirstLetter() {
        String all = "{0:x,1:x,2:x,3:x,4:x,5:x,6:x,7:x,8:x,9:x}";
        Handshakewarden hall = Check.hallOf("loop x a>b" + all);
        hall.begin(0, 5);
        for (int kind = 0; kind < 5; kind++) {
            hall.send(0, 9 - kind);
        }
        for (int kind = 0; kind < 5; kind++) {
            Check.due("the first one", 9 - kind, hall.hear(1));
            hall.send(0, kind);
        }
        for (int kind = 0; kind < 5; kind++) {
            Check.due("letters left", 5 - kind, hall.queue(0, 1));
            Check.due("the first one", kind, hall.hear(1));
        }
        Check.dueNoSuchElement("no more", () -> hall.hear(1));
    }

    /** "or the letter is not known to it". */
    private static void hearOfALetterNotKnown() {
        Handshakewarden hall = mixed("a>b{0:end,9:end}", 2, 0, "a>b{1:end,9:end}");
        hall.send(0, 1);
        Check.dueIllegalState("kind 1", () -> hall.hear(1));
        Check.due("it stays", 1, hall.queueAt(0, 1, 0));
        Check.due("b stays", 0, hall.stateOf(1));
        Check.due("b cannot hear", 3, hall.stands());
        hall.begin(0, 2);
        hall.put(0);
        hall.send(0, 9);
        Check.due("kind 9 is known to both", 9, hall.hear(1));
    }

    private static void stateOfARoleOfTheRun() {
        Handshakewarden hall = Check.hallOf("a>f{0:f>a{0:end}}", "b>e{0:end}");
        for (int role = 0; role < 6; role++) {
            int asked = role;
            Check.dueOutOfBounds("no run", () -> hall.stateOf(asked));
        }
        hall.begin(0, 1);
        hall.send(0, 0);
        hall.hear(5);
        hall.send(5, 0);
        Check.due("a", 1, hall.stateOf(0));
        Check.due("f", 2, hall.stateOf(5));
        for (int role = 1; role < 5; role++) {
            int asked = role;
            Check.dueOutOfBounds("role " + role, () -> hall.stateOf(asked));
        }
        for (int role : FAR) {
            Check.dueOutOfBounds("role " + role, () -> hall.stateOf(role));
        }
        hall.begin(1, 1);
        Check.dueOutOfBounds("a stands no more", () -> hall.stateOf(0));
        Check.due("e does", 0, hall.stateOf(4));
    }

    /** "0 if no run was begun, or from and to are the same". */
    private static void queueOfRoles0To5() {
        Handshakewarden hall = Check.hallOf("a>f{0:f>a{0:end}}");
        for (int turn = 0; turn < 2; turn++) {
            for (int role = 0; role < 6; role++) {
                Check.due("to itself", 0, hall.queue(role, role));
                Check.due("from a", turn == 1 && role == 5 ? 1 : 0, hall.queue(0, role));
                Check.due("from f", 0, hall.queue(5, role));
            }
            for (int wrong : FAR) {
                Check.dueIllegalArgument("from " + wrong, () -> hall.queue(wrong, 0));
                Check.dueIllegalArgument("to " + wrong, () -> hall.queue(0, wrong));
                Check.dueIllegalArgument("both " + wrong, () -> hall.queue(wrong, wrong));
            }
            if (turn == 0) {
                hall.begin(0, 1);
                hall.send(0, 0);
            }
        }
        hall.hear(5);
        hall.send(5, 0);
        Check.due("from f to a", 1, hall.queue(5, 0));
        Check.due("from a to f", 0, hall.queue(0, 5));
    }

    /** "IndexOutOfBoundsException if there is no such letter". */
    private static void queueAtFrom0On() {
        Handshakewarden hall = Check.hallOf("loop x a>f{0:x,9:x}");
        Check.dueOutOfBounds("no run", () -> hall.queueAt(0, 5, 0));
        hall.begin(0, 5);
        Check.dueOutOfBounds("none yet", () -> hall.queueAt(0, 5, 0));
        for (int letter = 0; letter < 5; letter++) {
            int behind = letter + 1;
            hall.send(0, letter % 2 == 0 ? 9 : 0);
            Check.due("the last one", letter % 2 == 0 ? 9 : 0, hall.queueAt(0, 5, letter));
            Check.dueOutOfBounds("behind it", () -> hall.queueAt(0, 5, behind));
        }
        Check.due("the first one", 9, hall.queueAt(0, 5, 0));
        for (int wrong : new int[] {-1, 5, 8, 32, Integer.MIN_VALUE, Integer.MAX_VALUE}) {
            Check.dueOutOfBounds("place " + wrong, () -> hall.queueAt(0, 5, wrong));
            Check.dueIllegalArgument("from ahead of place", () -> hall.queueAt(6, 5, wrong));
            Check.dueIllegalArgument("from ahead of place", () -> hall.queueAt(-1, 5, wrong));
            Check.dueIllegalArgument("to ahead of place", () -> hall.queueAt(0, 6, wrong));
            Check.dueIllegalArgument("to ahead of place", () -> hall.queueAt(0, -1, wrong));
        }
        Check.dueOutOfBounds("the same role", () -> hall.queueAt(0, 0, 0));
        Check.dueOutOfBounds("the other way", () -> hall.queueAt(5, 0, 0));
        hall.hear(5);
        Check.due("the second one is first now", 0, hall.queueAt(0, 5, 0));
        Check.dueOutOfBounds("there are four", () -> hall.queueAt(0, 5, 4));
    }

    private static void standsWithoutARun() {
        Handshakewarden hall = Check.hallOf("a>b{0:end}");
        Check.due("NONE", NONE, hall.stands());
        hall.image(1);
        hall.begin(0, 1);
        Check.due("it goes on", 0, hall.stands());
        hall.restore(1);
        Check.due("NONE again", NONE, hall.stands());
    }

    /** "A run is over if all its roles are at END." */
    private static void standsOverOrNot() {
        Handshakewarden hall = Check.hallOf("end", "(a>b{0:end}|c>d{0:end})");
        hall.begin(0, 1);
        Check.due("of no role", 1, hall.stands());
        hall.begin(1, 1);
        hall.send(0, 0);
        hall.hear(1);
        Check.due("c and d are not", 0, hall.stands());
        hall.send(2, 0);
        Check.due("d is not", 0, hall.stands());
        hall.hear(3);
        Check.due("all are", 1, hall.stands());
        for (int role = 0; role < 5; role++) {
            String letter = (char) ('a' + role) + ">f";
            Handshakewarden last = mixed(letter + "{0:end}", 1, 5, letter + "{0:" + letter + "{0:end}}");
            last.send(role, 0);
            Check.due("f hears the first letter", 0, last.stands());
            last.hear(5);
            Check.due("f alone is not at END", 3, last.stands());
        }
        Handshakewarden send = mixed("e>f{0:end}", 1, 5, "f>e{0:end}");
        send.send(4, 0);
        Check.due("f alone can go on", 0, send.stands());
        Handshakewarden first = mixed("f>a{0:end}", 1, 0, "f>a{0:f>a{0:end}}");
        first.send(5, 0);
        first.hear(0);
        Check.due("a alone is not at END", 3, first.stands());
    }

    /** "It is stuck if it is not over, and no role can send or hear". */
    private static void standsStuck() {
        Handshakewarden hears = mixed("a>b{0:end}", 1, 0, "b>a{0:end}");
        Check.due("both hear from the beginning on", 3, hears.stands());
        Handshakewarden full = mixed("a>b{0:a>b{0:end}}", 1, 1, "end");
        Check.due("a can send", 0, full.stands());
        full.send(0, 0);
        Check.due("the queue is full", 3, full.stands());
        Handshakewarden room = mixed("a>b{0:a>b{0:end}}", 2, 1, "end");
        room.send(0, 0);
        Check.due("there is room for one more", 0, room.stands());
        Handshakewarden unknown = mixed("a>b{0:end}", 1, 1, "a>b{1:end}");
        unknown.send(0, 0);
        Check.due("a letter that is not known cannot be heard", 3, unknown.stands());
    }

    /** "A letter is left if the run is over, and some queue is not empty." */
    private static void standsLeft() {
        Handshakewarden hall = mixed("a>b{0:end}", 1, 1, "end");
        Check.due("a can send", 0, hall.stands());
        hall.send(0, 0);
        Check.due("a letter is left", 2, hall.stands());
        Check.due("it stays in the queue", 1, hall.queue(0, 1));
        Handshakewarden last = mixed("f>e{0:end}", 5, 4, "end");
        last.send(5, 0);
        Check.due("the last queue", 2, last.stands());
    }

    /** "Returns how many; 0 if no run was begun." */
    private static void sentCountsLetters() {
        Handshakewarden hall = Check.hallOf("loop x a>b{0:b>a{0:x}}");
        Check.due("no run", 0, hall.sent());
        hall.image(0);
        hall.begin(0, 1);
        for (int letters = 0; letters < 120; letters += 2) {
            Check.due("letters", letters, hall.sent());
            hall.send(0, 0);
            Check.due("one more", letters + 1, hall.sent());
            hall.hear(1);
            hall.send(1, 0);
            hall.hear(0);
        }
        Check.due("hearing does not count", 120, hall.sent());
        hall.letter(0, 1, 0);
        Check.due("nor does the monitor", 120, hall.sent());
        hall.begin(0, 1);
        Check.due("a new run", 0, hall.sent());
        hall.send(0, 0);
        hall.restore(0);
        Check.due("no run again", 0, hall.sent());
    }
}
