/** Promises 24 to 32: begin, put, send, hear, stateOf, queue, queueAt, stands, sent. */
public final class RunTest {
    public static void main(String[] args) {
        begin();
        beginThatCannotBe();
        put();
        putThatCannotBe();
        sendAndHear();
        sendThatCannotBe();
        hearThatCannotBe();
        queues();
        bounds();
        stands();
        lettersToNobody();
        Check.end("RunTest");
    }

    private static void begin() {
        Handshakewarden hall = Check.hallOf("a>b{0:b>f{1:end}}", "end", "loop x c>d{0:x}");
        Check.due("begin of end", 0, hall.begin(1, 5));
        Check.due("it is over", 1, hall.stands());
        Check.due("three roles", 3, hall.begin(0, 1));
        Check.due("send", 1, hall.send(0, 0));
        Check.due("hear", 0, hall.hear(1));
        Check.due("letters that were sent", 1, hall.sent());
        Check.due("in place of the one before", 2, hall.begin(2, 2));
        Check.due("nothing was sent in it", 0, hall.sent());
        Check.dueOutOfBounds("roles of the one before", () -> hall.stateOf(0));
        Check.due("first state", 0, hall.stateOf(2));
        Check.due("first state", 0, hall.stateOf(3));
        hall.send(2, 0);
        Check.due("begin again", 2, hall.begin(2, 2));
        Check.due("all queues are empty", 0, hall.queue(2, 3));
        Check.read(hall, 2, "end");
        Check.due("the run keeps its parts", 1, hall.send(2, 0));
    }

    private static void beginThatCannotBe() {
        Handshakewarden hall = Check.hallOf("a>b{0:b>c{1:end},1:c>b{2:end}}", "a>b{0:end}");
        Check.due("nothing was begun", -1, hall.stands());
        Check.dueIllegalState("a whole that cannot be cut", () -> hall.begin(0, 1));
        Check.due("nothing was begun still", -1, hall.stands());
        hall.begin(1, 1);
        hall.send(0, 0);
        Check.dueIllegalState("a whole that cannot be cut", () -> hall.begin(0, 1));
        Check.due("the run stays", 1, hall.sent());
        Check.dueIllegalArgument("whole", () -> hall.begin(-1, 1));
        Check.dueIllegalArgument("whole", () -> hall.begin(4, 1));
        Check.dueIllegalArgument("bound", () -> hall.begin(1, 0));
        Check.dueIllegalArgument("bound", () -> hall.begin(1, 6));
        Check.dueIllegalArgument("bound ahead of what cannot be", () -> hall.begin(0, 6));
        Check.due("the run stays", 1, hall.sent());
    }

    private static void put() {
        Handshakewarden hall = Check.hallOf("a>b{0:end}", "a>b{4:a>b{5:end}}", "a>b{4:a>b{6:end}}");
        hall.part(1, 0, 3);
        hall.part(1, 1, 4);
        hall.begin(0, 1);
        Check.due("put a", 0, hall.put(3));
        Check.dueIllegalState("its own part is away", () -> hall.send(0, 0));
        Check.due("put b", 1, hall.put(4));
        Check.due("send by another part", 1, hall.send(0, 4));
        Check.due("hear by another part", 4, hall.hear(1));
        hall.part(2, 0, 3);
        Check.due("the run keeps the part", 1, hall.send(0, 5));
        hall.begin(0, 1);
        Check.dueIllegalState("a run begins with its own parts", () -> hall.send(0, 4));
        hall.put(3);
        hall.put(3);
        hall.put(4);
        hall.part(0, 0, 3);
        hall.put(3);
        Check.due("the latest one", 1, hall.send(0, 0));
    }

    private static void putThatCannotBe() {
        Handshakewarden hall = Check.hallOf("a>b{0:end}", "a>c{0:end}");
        hall.part(0, 0, 0);
        hall.part(1, 2, 1);
        Check.dueIllegalState("no run", () -> hall.put(0));
        hall.begin(0, 1);
        Check.dueIllegalState("c does not stand in it", () -> hall.put(1));
        Check.dueIllegalArgument("slot", () -> hall.put(8));
        Check.dueIllegalArgument("slot", () -> hall.put(-1));
        Check.due("before anything is sent", 0, hall.put(0));
        hall.send(0, 0);
        Check.dueIllegalState("something was sent", () -> hall.put(0));
        hall.hear(1);
        Check.dueIllegalState("and heard", () -> hall.put(0));
        Check.dueIllegalArgument("slot ahead of what cannot be", () -> hall.put(8));
        hall.begin(1, 1);
        Check.due("now c does", 2, hall.put(1));
    }

    private static void sendAndHear() {
        Handshakewarden hall = Check.hallOf("loop x a>b{0:b>a{1:x,2:end},3:b>a{4:end}}");
        hall.begin(0, 1);
        for (int round = 0; round < 3; round++) {
            Check.due("a sends", 1, hall.send(0, 0));
            Check.due("a goes on", 1, hall.stateOf(0));
            Check.due("b stays", 0, hall.stateOf(1));
            Check.due("b hears", 0, hall.hear(1));
            Check.due("b goes on", 1, hall.stateOf(1));
            Check.due("b sends", 1, hall.send(1, 1));
            Check.due("a hears", 1, hall.hear(0));
            Check.due("a is back", 0, hall.stateOf(0));
            Check.due("letters", 2 * round + 2, hall.sent());
        }
        hall.send(0, 3);
        Check.due("b hears the other kind", 3, hall.hear(1));
        Check.due("b is elsewhere", 2, hall.stateOf(1));
        hall.send(1, 4);
        Check.due("a hears the last letter", 4, hall.hear(0));
        Check.due("a is at END", 3, hall.stateOf(0));
        Check.due("it is over", 1, hall.stands());
        Check.due("letters", 8, hall.sent());
    }

    private static void sendThatCannotBe() {
        Handshakewarden hall = Check.hallOf("loop x a>b{0:x,2:b>a{1:end}}");
        Check.dueOutOfBounds("no run", () -> hall.send(0, 0));
        Check.dueOutOfBounds("no run ahead of kind", () -> hall.send(0, 10));
        hall.begin(0, 1);
        for (int role : new int[] {-1, 2, 5, 6, 32, 99}) {
            Check.dueOutOfBounds("role " + role, () -> hall.send(role, 0));
            Check.dueOutOfBounds("role " + role + " ahead of kind", () -> hall.send(role, -1));
        }
        Check.dueIllegalArgument("kind", () -> hall.send(0, 10));
        Check.dueIllegalArgument("kind", () -> hall.send(0, -1));
        Check.dueIllegalArgument("kind ahead of state", () -> hall.send(1, 10));
        Check.dueIllegalState("at HEAR", () -> hall.send(1, 0));
        Check.dueIllegalState("not this kind", () -> hall.send(0, 1));
        hall.send(0, 0);
        Check.dueIllegalState("the queue is full", () -> hall.send(0, 0));
        Check.due("nothing is different", 1, hall.queue(0, 1));
        Check.due("nothing is different", 1, hall.sent());
        hall.hear(1);
        hall.send(0, 2);
        Check.dueIllegalState("a hears now", () -> hall.send(0, 2));
        hall.hear(1);
        hall.send(1, 1);
        Check.dueIllegalState("at END", () -> hall.send(1, 1));
    }

    private static void hearThatCannotBe() {
        Handshakewarden hall = Check.hallOf("a>b{0:end}", "a>b{7:end}");
        Check.dueOutOfBounds("no run", () -> hall.hear(0));
        hall.begin(0, 2);
        for (int role : new int[] {-1, 2, 5, 6, 31, 33}) {
            Check.dueOutOfBounds("role " + role, () -> hall.hear(role));
            Check.dueOutOfBounds("role " + role, () -> hall.stateOf(role));
        }
        Check.dueIllegalState("at SEND", () -> hall.hear(0));
        Check.dueNoSuchElement("the queue is empty", () -> hall.hear(1));
        hall.send(0, 0);
        Check.dueIllegalState("at END", () -> hall.hear(0));
        hall.hear(1);
        Check.dueIllegalState("at END", () -> hall.hear(1));
        hall.part(1, 0, 0);
        hall.begin(0, 2);
        hall.put(0);
        Check.dueNoSuchElement("the queue is empty", () -> hall.hear(1));
        hall.send(0, 7);
        Check.dueIllegalState("the letter is not known", () -> hall.hear(1));
        Check.due("it stays in the queue", 7, hall.queueAt(0, 1, 0));
        Check.due("the role stays", 0, hall.stateOf(1));
    }

    private static void queues() {
        Handshakewarden hall = Check.hallOf("loop x a>b{9:a>b{0:a>b{4:a>b{5:a>b{6:x}}}}}");
        Check.due("no run", 0, hall.queue(0, 1));
        Check.dueOutOfBounds("no run", () -> hall.queueAt(0, 1, 0));
        hall.begin(0, 5);
        int[] kinds = {9, 0, 4, 5, 6};
        for (int i = 0; i < 5; i++) {
            Check.due("letters then", i + 1, hall.send(0, kinds[i]));
            Check.due("letters", i + 1, hall.queue(0, 1));
        }
        for (int i = 0; i < 5; i++) {
            Check.due("letter " + i, kinds[i], hall.queueAt(0, 1, i));
        }
        Check.due("first in, first out", 9, hall.hear(1));
        Check.due("the next one is first", 0, hall.queueAt(0, 1, 0));
        Check.due("one less", 4, hall.queue(0, 1));
        hall.send(0, 9);
        Check.due("the last place", 9, hall.queueAt(0, 1, 4));
        Check.dueOutOfBounds("behind the last one", () -> hall.queueAt(0, 1, 5));
        Check.dueOutOfBounds("ahead of the first one", () -> hall.queueAt(0, 1, -1));
        Check.dueOutOfBounds("the other way", () -> hall.queueAt(1, 0, 0));
        Check.due("the other way", 0, hall.queue(1, 0));
        for (int role = 0; role < 6; role++) {
            int same = role;
            Check.due("to itself", 0, hall.queue(same, same));
            Check.dueOutOfBounds("to itself", () -> hall.queueAt(same, same, 0));
            Check.due("of roles that do not stand in it", 0, hall.queue(same, 5));
        }
        for (int wrong : new int[] {-1, 6}) {
            Check.dueIllegalArgument("from", () -> hall.queue(wrong, 0));
            Check.dueIllegalArgument("to", () -> hall.queue(0, wrong));
            Check.dueIllegalArgument("both", () -> hall.queue(wrong, wrong));
            Check.dueIllegalArgument("from", () -> hall.queueAt(wrong, 0, 9));
            Check.dueIllegalArgument("to", () -> hall.queueAt(0, wrong, 9));
        }
    }

    private static void bounds() {
        for (int most = 1; most <= 5; most++) {
            Handshakewarden hall = Check.hallOf("(loop x a>b{0:x}|loop x c>d{1:x})");
            hall.begin(0, most);
            for (int letter = 1; letter <= most; letter++) {
                Check.due("bound " + most, letter, hall.send(0, 0));
                Check.due("bound " + most, letter, hall.send(2, 1));
            }
            Check.dueIllegalState("more than " + most, () -> hall.send(0, 0));
            Check.due("it goes on still", 0, hall.stands());
            hall.hear(1);
            Check.due("room again", most, hall.send(0, 0));
        }
    }

    private static void stands() {
        Handshakewarden hall = Check.hallOf("a>b{0:b>a{1:end}}", "b>a{1:a>b{0:end}}",
                "a>b{0:a>b{2:end}}", "a>b{3:end}");
        hall.begin(0, 1);
        Check.due("it goes on", 0, hall.stands());
        hall.send(0, 0);
        Check.due("b can hear", 0, hall.stands());
        hall.hear(1);
        hall.send(1, 1);
        Check.due("a can hear", 0, hall.stands());
        hall.hear(0);
        Check.due("it is over", 1, hall.stands());

        hall.part(1, 0, 0);
        hall.begin(0, 1);
        hall.put(0);
        Check.due("both hear: stuck", 3, hall.stands());

        hall.part(2, 0, 0);
        hall.part(3, 1, 1);
        hall.begin(2, 1);
        hall.put(1);
        hall.send(0, 0);
        Check.due("full, and not known: stuck", 3, hall.stands());

        hall.begin(3, 2);
        hall.put(0);
        hall.send(0, 0);
        hall.send(0, 2);
        Check.due("not known: stuck", 3, hall.stands());

        hall.part(0, 2, 2);
        Check.read(hall, 3, "a>b{0:end}");
        hall.begin(3, 1);
        hall.put(0);
        hall.send(0, 0);
        hall.hear(1);
        Check.due("a goes on", 0, hall.stands());
        hall.send(0, 2);
        Check.due("over, and a letter is left", 2, hall.stands());
        Check.due("the letters of it", 2, hall.sent());
    }

    private static void lettersToNobody() {
        Handshakewarden hall = Check.hallOf("a>b{0:end}", "a>f{4:end}", "f>a{4:end}");
        hall.part(1, 0, 0);
        hall.begin(0, 1);
        hall.put(0);
        Check.due("to a role that does not stand in it", 1, hall.send(0, 4));
        Check.due("the letter is on the way", 4, hall.queueAt(0, 5, 0));
        Check.due("b waits", 3, hall.stands());
        hall.part(2, 0, 0);
        hall.begin(0, 1);
        hall.put(0);
        Check.dueNoSuchElement("from a role that does not stand in it", () -> hall.hear(0));
        Check.due("nobody sends", 3, hall.stands());
    }
}
