import java.util.ArrayList;
import java.util.List;
import java.util.NoSuchElementException;

/**
 * "A call that throws an exception changes nothing": two halls are used alike, one of them is asked for what
 * is refused as well, and then both answer alike to all that can be asked, and go on alike.
 */
public final class RefusedTest {
    /** A call of one hall. */
    interface Asked {
        Object of(Handshakewarden hall);
    }

    private static final Class<IllegalArgumentException> ARGUMENT = IllegalArgumentException.class;
    private static final Class<IllegalStateException> STATE = IllegalStateException.class;
    private static final Class<IndexOutOfBoundsException> BOUNDS = IndexOutOfBoundsException.class;
    private static final Class<NoSuchElementException> ELEMENT = NoSuchElementException.class;
    private static final int SCENES = 5;
    private static final int BLANKS = 0x20202020;

    private static int scene;

    public static void main(String[] args) {
        for (scene = 0; scene < SCENES; scene++) {
            outOfRange();
        }
        scene = 0;
        newObject();
        scene = 1;
        noRun();
        scene = 2;
        nothingSent();
        scene = 3;
        lettersOnTheWay();
        scene = 4;
        atOdds();
        readOfAnError();
        firstOfSeveral();
        Check.end("RefusedTest");
    }

    /** 0: new; 1: no run; 2: a run of which nothing was sent; 3: letters on the way; 4: other parts, a fault. */
    private static Handshakewarden hall() {
        Handshakewarden hall = new Handshakewarden();
        if (scene == 0) {
            return hall;
        }
        Check.read(hall, 0, "loop x a>b{0:a>c{1:x},2:a>c{3:end}}");
        Check.read(hall, 1, "a>b{0:end,1:b>c{0:end}}");
        Check.read(hall, 2, "a>b{5:end}");
        hall.part(0, 0, 0);
        hall.part(2, 0, 1);
        hall.part(2, 1, 2);
        hall.part(2, 4, 3);
        Check.write(hall, "end end");
        Check.outcome(() -> hall.read(3));
        hall.image(0);
        Check.write(hall, "a>b{0:end,1:end}");
        if (scene > 1) {
            hall.begin(0, 2);
        }
        if (scene == 2) {
            hall.append(BLANKS, BLANKS, BLANKS, BLANKS, BLANKS);
        }
        if (scene == 3) {
            hall.letter(0, 1, 0);
            hall.send(0, 0);
            hall.send(0, 1);
            hall.send(0, 2);
        }
        if (scene == 4) {
            hall.put(1);
            hall.letter(0, 1, 5);
            hall.send(0, 5);
            hall.image(1);
        }
        return hall;
    }

    private static void refused(String name, Class<? extends RuntimeException> due, Asked call) {
        Handshakewarden one = hall();
        Handshakewarden other = hall();
        String told = "scene " + scene + ": " + name;
        Check.dueThrow(told, due, () -> call.of(one));
        Check.due("behind " + told, everything(other), everything(one));
    }

    /** The answers to some 300 calls: first all questions, then calls that go on with the hall. */
    private static List<Object> everything(Handshakewarden hall) {
        List<Object> told = new ArrayList<>();
        told.add(hall.append(0, 0, 0, 0, 0));
        told.add(hall.errorPosition());
        for (int whole = 0; whole < 4; whole++) {
            askWhole(hall, told, whole);
        }
        for (int slot = 0; slot < 8; slot++) {
            askSlot(hall, told, slot);
        }
        askRun(hall, told);
        told.add(hall.blame(0));
        told.add(hall.blame(1));
        told.add(hall.checksum());
        told.add(hall.meanKinds());
        told.add(hall.cutShare());
        goOn(hall, told);
        told.add(Check.outcome(() -> hall.read(3)));
        told.add(hall.errorPosition());
        told.add(hall.checksum());
        for (int image = 0; image < 2; image++) {
            int kept = image;
            told.add(Check.outcome(() -> hall.restore(kept)));
            told.add(hall.checksum());
            told.add(hall.stands());
            told.add(hall.blame(0));
        }
        return told;
    }

    private static void askWhole(Handshakewarden hall, List<Object> told, int whole) {
        told.add(hall.places(whole));
        told.add(hall.roles(whole));
        told.add(hall.cut(whole));
        told.add(hall.why(whole, 2));
        told.add(hall.areAlike(whole, 0));
        for (int place = 0; place < hall.places(whole); place++) {
            told.add(hall.placeAt(whole, place, 1));
            told.add(hall.placeAt(whole, place, 3));
            told.add(hall.next(whole, place, 0));
        }
    }

    private static void askSlot(Handshakewarden hall, List<Object> told, int slot) {
        told.add(hall.roleOf(slot));
        told.add(hall.states(slot));
        told.add(hall.stateAt(slot, 0, 0));
        told.add(hall.stateAt(slot, 0, 2));
        told.add(hall.step(slot, 0, 5));
        told.add(hall.isBelow(slot, 1));
    }

    private static void askRun(Handshakewarden hall, List<Object> told) {
        told.add(hall.stands());
        told.add(hall.sent());
        for (int role = 0; role < 6; role++) {
            int asked = role;
            told.add(Check.outcome(() -> hall.stateOf(asked)));
        }
        for (int pair = 0; pair < 36; pair++) {
            int from = pair / 6;
            int to = pair % 6;
            told.add(hall.queue(from, to));
            if (hall.queue(from, to) > 0) {
                told.add(hall.queueAt(from, to, 0));
                told.add(hall.queueAt(from, to, hall.queue(from, to) - 1));
            }
        }
        for (int what = 0; what < 5; what++) {
            int asked = what;
            told.add(Check.outcome(() -> hall.all(1, asked)));
        }
        told.add(Check.outcome(() -> hall.least()));
    }

    /** The monitor first, then letters that are sent and heard, a part that is put, a whole of the parts. */
    private static void goOn(Handshakewarden hall, List<Object> told) {
        for (int kind = 0; kind < 6; kind++) {
            int next = kind;
            told.add(Check.outcome(() -> hall.letter(0, 1 + next % 2, next)));
        }
        told.add(hall.blame(0));
        told.add(Check.outcome(() -> hall.put(2)));
        for (int turn = 0; turn < 3; turn++) {
            for (int role = 0; role < 3; role++) {
                int next = role;
                told.add(Check.outcome(() -> hall.hear(next)));
            }
            for (int kind = 0; kind < 6; kind++) {
                int next = kind;
                told.add(Check.outcome(() -> hall.send(0, next)));
            }
        }
        told.add(hall.stands());
        told.add(hall.sent());
        told.add(Check.outcome(() -> hall.back(2)));
    }

    /** What is out of range is refused in each scene, but for roles of no run, which are not there. */
    private static void outOfRange() {
        for (int far : new int[] {-1, 10, Integer.MIN_VALUE, Integer.MAX_VALUE}) {
            refused("read", ARGUMENT, hall -> hall.read(far));
            refused("example", ARGUMENT, hall -> hall.example(far));
            refused("places", ARGUMENT, hall -> hall.places(far));
            refused("next", ARGUMENT, hall -> hall.next(0, 0, far));
            refused("part of a whole", ARGUMENT, hall -> hall.part(far, 0, 7));
            refused("part of a role", ARGUMENT, hall -> hall.part(0, far, 7));
            refused("part into a slot", ARGUMENT, hall -> hall.part(0, 0, far));
            refused("mirror of a slot", ARGUMENT, hall -> hall.mirror(far, 7));
            refused("mirror into a slot", ARGUMENT, hall -> hall.mirror(1, far));
            refused("begin with a whole", ARGUMENT, hall -> hall.begin(far, 1));
            refused("begin with a bound", ARGUMENT, hall -> hall.begin(2, far));
            refused("put", ARGUMENT, hall -> hall.put(far));
            refused("send", BOUNDS, hall -> hall.send(far, 0));
            refused("hear", BOUNDS, hall -> hall.hear(far));
            refused("all", ARGUMENT, hall -> hall.all(far, 0));
            refused("rows", ARGUMENT, hall -> hall.rows(far, 0));
            refused("back", ARGUMENT, hall -> hall.back(far));
            refused("letter from", ARGUMENT, hall -> hall.letter(far, 1, 0));
            refused("letter to", ARGUMENT, hall -> hall.letter(0, far, 0));
            refused("letter of a kind", ARGUMENT, hall -> hall.letter(0, 1, far));
            refused("image", ARGUMENT, hall -> hall.image(far));
            refused("restore", ARGUMENT, hall -> hall.restore(far));
        }
        refused("letter to itself", ARGUMENT, hall -> hall.letter(1, 1, 0));
        refused("bound 0", ARGUMENT, hall -> hall.begin(2, 0));
    }

    private static void newObject() {
        refused("mirror", STATE, hall -> hall.mirror(0, 7));
        refused("put", STATE, hall -> hall.put(0));
        refused("send", BOUNDS, hall -> hall.send(0, 0));
        refused("hear", BOUNDS, hall -> hall.hear(0));
        refused("all", STATE, hall -> hall.all(1, 0));
        refused("ringAt", STATE, hall -> hall.ringAt(1, 0));
        refused("least", STATE, hall -> hall.least());
        refused("back", STATE, hall -> hall.back(0));
        refused("letter", STATE, hall -> hall.letter(0, 1, 0));
        refused("restore", ELEMENT, hall -> hall.restore(0));
        refused("placeAt", BOUNDS, hall -> hall.placeAt(0, 1, 0));
        refused("stateAt", BOUNDS, hall -> hall.stateAt(0, 1, 0));
    }

    private static void noRun() {
        refused("part that cannot be cut", STATE, hall -> hall.part(1, 2, 0));
        refused("part that cannot be cut", STATE, hall -> hall.part(1, 2, 7));
        refused("mirror of two others", STATE, hall -> hall.mirror(0, 1));
        refused("mirror of no other", STATE, hall -> hall.mirror(3, 1));
        refused("begin with what cannot be cut", STATE, hall -> hall.begin(1, 5));
        refused("put", STATE, hall -> hall.put(1));
        refused("back", STATE, hall -> hall.back(0));
        refused("letter", STATE, hall -> hall.letter(0, 1, 0));
        refused("rows of what cannot be cut", STATE, hall -> hall.rows(1, 0));
        refused("restore", ELEMENT, hall -> hall.restore(1));
        refused("showsAt", BOUNDS, hall -> hall.showsAt(0, 0, 0));
    }

    private static void nothingSent() {
        refused("begin with what cannot be cut", STATE, hall -> hall.begin(1, 5));
        refused("put of a role that does not stand", STATE, hall -> hall.put(3));
        refused("send of a role that does not stand", BOUNDS, hall -> hall.send(3, 0));
        refused("send of a kind out of range", ARGUMENT, hall -> hall.send(0, 10));
        refused("send of a kind that is not there", STATE, hall -> hall.send(0, 1));
        refused("send at HEAR", STATE, hall -> hall.send(1, 0));
        refused("hear at SEND", STATE, hall -> hall.hear(0));
        refused("hear of an empty queue", ELEMENT, hall -> hall.hear(1));
        refused("ringAt", ELEMENT, hall -> hall.ringAt(1, 0));
        refused("queueAt", BOUNDS, hall -> hall.queueAt(0, 1, 0));
    }

    private static void lettersOnTheWay() {
        refused("begin with what cannot be cut", STATE, hall -> hall.begin(1, 5));
        refused("put", STATE, hall -> hall.put(1));
        refused("send of a kind that is not there", STATE, hall -> hall.send(0, 0));
        refused("send of a kind out of range", ARGUMENT, hall -> hall.send(0, -1));
        refused("hear at SEND", STATE, hall -> hall.hear(0));
        refused("hear of a role that does not stand", BOUNDS, hall -> hall.hear(5));
        refused("queueAt", BOUNDS, hall -> hall.queueAt(0, 1, 2));
        refused("restore", ELEMENT, hall -> hall.restore(1));
    }

    private static void atOdds() {
        refused("begin with what cannot be cut", STATE, hall -> hall.begin(1, 5));
        refused("put", STATE, hall -> hall.put(1));
        refused("send at END", STATE, hall -> hall.send(0, 5));
        refused("hear at END", STATE, hall -> hall.hear(0));
        refused("a letter that is not known", STATE, hall -> hall.hear(1));
        refused("hear of an empty queue", ELEMENT, hall -> hall.hear(2));
        refused("letter to itself behind a fault", ARGUMENT, hall -> hall.letter(3, 3, 0));
    }

    /** "except that read() empties the tape and sets the error position". */
    private static void readOfAnError() {
        for (scene = 1; scene < SCENES; scene++) {
            for (int whole = 0; whole < 4; whole++) {
                int asked = whole;
                Handshakewarden one = hall();
                Handshakewarden other = hall();
                one.clearTape();
                other.clearTape();
                Check.write(one, "a>b{0:a>b{1:end},0:end}");
                Check.dueIllegalArgument("an error", () -> one.read(asked));
                List<Object> told = everything(one);
                List<Object> due = everything(other);
                Check.due("the tape is empty", 0, told.remove(0));
                Check.due("the error position is set", 17, told.remove(0));
                due.remove(0);
                Check.due("where it was before", 4, due.remove(0));
                Check.due("else nothing is different", due, told);
            }
        }
    }

    /** "If several exceptions apply to a call, the one that is listed first is thrown." */
    private static void firstOfSeveral() {
        for (scene = 0; scene < 2; scene++) {
            refused("send: no run, kind", BOUNDS, hall -> hall.send(0, 10));
            refused("put: slot, no run", ARGUMENT, hall -> hall.put(8));
            refused("all: bound, no run", ARGUMENT, hall -> hall.all(0, 0));
            refused("all: what, no run", ARGUMENT, hall -> hall.all(1, 5));
            refused("ringAt: bound, no run, place", ARGUMENT, hall -> hall.ringAt(6, -1));
            refused("ringAt: no run, place", STATE, hall -> hall.ringAt(5, -1));
            refused("back: whole, no run", ARGUMENT, hall -> hall.back(4));
            refused("letter: the same roles, no run", ARGUMENT, hall -> hall.letter(0, 0, 0));
            refused("letter: kind, no run", ARGUMENT, hall -> hall.letter(0, 1, 10));
            refused("queueAt: from, place", ARGUMENT, hall -> hall.queueAt(6, 0, 0));
            refused("queueAt: to, place", ARGUMENT, hall -> hall.queueAt(0, 6, 0));
            refused("restore: image, none kept", ARGUMENT, hall -> hall.restore(2));
            refused("mirror: to, no other role", ARGUMENT, hall -> hall.mirror(3, 8));
            refused("placeAt: what, place", ARGUMENT, hall -> hall.placeAt(0, 99, 4));
            refused("placeAt: whole, place", ARGUMENT, hall -> hall.placeAt(4, 99, 0));
            refused("next: kind, place", ARGUMENT, hall -> hall.next(0, 99, 10));
            refused("next: whole, place", ARGUMENT, hall -> hall.next(4, 99, 0));
            refused("stateAt: what, state", ARGUMENT, hall -> hall.stateAt(0, 99, 3));
            refused("stateAt: slot, state", ARGUMENT, hall -> hall.stateAt(8, 99, 0));
            refused("step: kind, state", ARGUMENT, hall -> hall.step(0, 99, 10));
            refused("step: slot, state", ARGUMENT, hall -> hall.step(8, 99, 0));
            refused("showsAt: slot, place", ARGUMENT, hall -> hall.showsAt(8, 0, 99));
            refused("showsAt: other, place", ARGUMENT, hall -> hall.showsAt(0, 8, 99));
        }
        scene = 1;
        refused("part: slot, cannot be cut", ARGUMENT, hall -> hall.part(1, 2, 8));
        refused("begin: bound, cannot be cut", ARGUMENT, hall -> hall.begin(1, 6));
        refused("rows: length, cannot be cut", ARGUMENT, hall -> hall.rows(1, 13));
        scene = 3;
        refused("put: slot, something was sent", ARGUMENT, hall -> hall.put(8));
        refused("send: role, kind", BOUNDS, hall -> hall.send(3, 10));
        refused("send: kind, at HEAR", ARGUMENT, hall -> hall.send(1, 10));
        refused("hear: role, empty queue", BOUNDS, hall -> hall.hear(3));
        scene = 2;
        refused("hear: at SEND, empty queue", STATE, hall -> hall.hear(0));
        refused("ringAt: bound, none is stuck", ARGUMENT, hall -> hall.ringAt(0, 0));
    }
}
