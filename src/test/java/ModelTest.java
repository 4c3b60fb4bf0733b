import java.util.Random;

/** Holds the class against the model, call by call, over many runs of calls that are drawn by seeds. */
public final class ModelTest {
    private static final int RUNS = 1500;
    private static final int CALLS = 300;

    private final Random random;
    private final Texts texts;
    private final Handshakewarden hall = new Handshakewarden();
    private final Model model = new Model();
    private final String run;

    private ModelTest(int seed) {
        run = "seed " + seed;
        random = new Random(seed);
        texts = new Texts(random);
    }

    public static void main(String[] args) {
        int first = args.length > 0 ? Integer.parseInt(args[0]) : 0;
        int count = args.length > 1 ? Integer.parseInt(args[1]) : RUNS;
        for (int seed = first; seed < first + count; seed++) {
            new ModelTest(seed).hold();
        }
        Check.end("ModelTest");
    }

    private void hold() {
        int most = random.nextInt(8) == 0 ? 510 : 60 + random.nextInt(CALLS);
        for (int call = 0; call < most; call++) {
            int what = random.nextInt(100);
            if (what < 10) {
                call += write();
            } else if (what < 30) {
                askWholes();
            } else if (what < 56) {
                askParts();
            } else if (what < 80) {
                goOnRunning();
            } else if (what < 92) {
                lookAndWeave();
            } else {
                keepAndCount();
            }
        }
        same("checksum()", () -> hall.checksum(), () -> model.checksum());
        same("errors()", () -> hall.errors(), () -> model.errors());
    }

    private void same(String call, Check.Call asked, Check.Call due) {
        Check.due(run + " " + call, Check.outcome(due), Check.outcome(asked));
    }

    /** A number from 0 to below the count; now and then one that is out of range. */
    private int number(int count) {
        return random.nextInt(30) == 0 ? random.nextBoolean() ? -1 : count : random.nextInt(count);
    }

    private int kind() {
        return random.nextInt(3) == 0 ? number(10) : random.nextInt(4);
    }

    private int write() {
        int calls = 1;
        String text = texts.any();
        if (random.nextInt(4) == 0) {
            int which = number(5);
            same("example(" + which + ")", () -> hall.example(which), () -> model.example(which));
        } else {
            same("clearTape()", () -> hall.clearTape(), () -> model.clearTape());
            for (int at = 0; at < text.length(); at += 20) {
                int[] w = new int[5];
                for (int i = 0; i < 20; i++) {
                    int letter = at + i < text.length() ? text.charAt(at + i) : 0;
                    w[i / 4] |= letter << 24 - 8 * (i % 4);
                }
                same("append \"" + text + "\"", () -> hall.append(w[0], w[1], w[2], w[3], w[4]),
                        () -> model.append(w[0], w[1], w[2], w[3], w[4]));
                calls++;
            }
        }
        if (random.nextInt(20) == 0) {
            int a = random.nextInt();
            int b = random.nextInt();
            same("append(" + a + ", " + b + ")", () -> hall.append(a, 0, b, 0, 1),
                    () -> model.append(a, 0, b, 0, 1));
        }
        int whole = number(4);
        same("read(" + whole + ") of \"" + text + "\"", () -> hall.read(whole), () -> model.read(whole));
        same("errorPosition() of \"" + text + "\"", () -> hall.errorPosition(), () -> model.errorPosition());
        return calls + 2;
    }

    private void askWholes() {
        int whole = number(4);
        int other = number(4);
        int place = number(random.nextBoolean() ? 5 : 25);
        int what = number(4);
        int kind = kind();
        int slot = number(8);
        int role = number(6);
        String w = "(" + whole + ", ";
        switch (random.nextInt(10)) {
            case 0 -> same("places" + w, () -> hall.places(whole), () -> model.places(whole));
            case 1 -> same("placeAt" + w + place + ", " + what, () -> hall.placeAt(whole, place, what),
                    () -> model.placeAt(whole, place, what));
            case 2 -> same("next" + w + place + ", " + kind, () -> hall.next(whole, place, kind),
                    () -> model.next(whole, place, kind));
            case 3 -> same("roles" + w, () -> hall.roles(whole), () -> model.roles(whole));
            case 4 -> same("areAlike" + w + other, () -> hall.areAlike(whole, other),
                    () -> model.areAlike(whole, other));
            case 5 -> same("cut" + w, () -> hall.cut(whole), () -> model.cut(whole));
            case 6 -> same("why" + w + what, () -> hall.why(whole, what), () -> model.why(whole, what));
            case 7, 8 -> same("part" + w + role + ", " + slot, () -> hall.part(whole, role, slot),
                    () -> model.part(whole, role, slot));
            default -> {
                int length = number(13);
                same("rows" + w + length, () -> hall.rows(whole, length), () -> model.rows(whole, length));
            }
        }
    }

    private void askParts() {
        int slot = number(8);
        int other = random.nextInt(3) == 0 ? slot : number(8);
        int place = number(random.nextBoolean() ? 3 : 20);
        int what = number(3);
        int kind = kind();
        int whole = number(4);
        int role = number(6);
        String s = "(" + slot + ", ";
        switch (random.nextInt(12)) {
            case 0 -> same("mirror" + s + other, () -> hall.mirror(slot, other),
                    () -> model.mirror(slot, other));
            case 1 -> same("roleOf" + s, () -> hall.roleOf(slot), () -> model.roleOf(slot));
            case 2 -> same("states" + s, () -> hall.states(slot), () -> model.states(slot));
            case 3 -> same("stateAt" + s + place + ", " + what, () -> hall.stateAt(slot, place, what),
                    () -> model.stateAt(slot, place, what));
            case 4 -> same("step" + s + place + ", " + kind, () -> hall.step(slot, place, kind),
                    () -> model.step(slot, place, kind));
            case 5 -> same("isBelow" + s + other, () -> hall.isBelow(slot, other),
                    () -> model.isBelow(slot, other));
            case 6 -> same("shows" + s + other, () -> hall.shows(slot, other),
                    () -> model.shows(slot, other));
            case 7 -> same("showsAt" + s + other + ", " + place, () -> hall.showsAt(slot, other, place),
                    () -> model.showsAt(slot, other, place));
            case 8 -> same("fit" + s + other, () -> hall.fit(slot, other), () -> model.fit(slot, other));
            default -> same("part(" + whole + ", " + role + ", " + slot, () -> hall.part(whole, role, slot),
                    () -> model.part(whole, role, slot));
        }
    }

    private void goOnRunning() {
        int what = random.nextInt(20);
        int whole = number(4);
        int bound = 1 + number(5);
        int slot = number(8);
        int role = number(6);
        int to = number(6);
        int place = number(3);
        int kind = kind();
        if (what == 0) {
            same("begin(" + whole + ", " + bound, () -> hall.begin(whole, bound),
                    () -> model.begin(whole, bound));
        } else if (what < 3) {
            same("put(" + slot, () -> hall.put(slot), () -> model.put(slot));
        } else if (what < 8) {
            for (int times = 0; times < 10; times++) {
                int k = times;
                same("send(" + role + ", " + k, () -> hall.send(role, k), () -> model.send(role, k));
            }
        } else if (what < 13) {
            same("hear(" + role, () -> hall.hear(role), () -> model.hear(role));
        } else if (what < 15) {
            same("stateOf(" + role, () -> hall.stateOf(role), () -> model.stateOf(role));
        } else if (what < 16) {
            same("queue(" + role + ", " + to, () -> hall.queue(role, to), () -> model.queue(role, to));
        } else if (what < 17) {
            same("queueAt(" + role + ", " + to + ", " + place, () -> hall.queueAt(role, to, place),
                    () -> model.queueAt(role, to, place));
        } else if (what < 18) {
            same("send(" + role + ", " + kind, () -> hall.send(role, kind), () -> model.send(role, kind));
        } else {
            same("stands()", () -> hall.stands(), () -> model.stands());
            same("sent()", () -> hall.sent(), () -> model.sent());
        }
    }

    private void lookAndWeave() {
        int bound = 1 + number(5);
        int what = number(5);
        int place = number(4);
        int whole = number(4);
        int from = number(6);
        int to = number(6);
        int kind = kind();
        switch (random.nextInt(9)) {
            case 0, 1 -> same("all(" + bound + ", " + what, () -> hall.all(bound, what),
                    () -> model.all(bound, what));
            case 2 -> same("ringAt(" + bound + ", " + place, () -> hall.ringAt(bound, place),
                    () -> model.ringAt(bound, place));
            case 3 -> same("least()", () -> hall.least(), () -> model.least());
            case 4 -> same("back(" + whole, () -> hall.back(whole), () -> model.back(whole));
            case 5 -> same("blame(" + what, () -> hall.blame(what), () -> model.blame(what));
            case 6, 7 -> tellRight(from, to);
            default -> same("letter(" + from + ", " + to + ", " + kind, () -> hall.letter(from, to, kind),
                    () -> model.letter(from, to, kind));
        }
    }

    /** A letter that is right, as far as one is found by trying on an image of the model. */
    private void tellRight(int from, int to) {
        for (int kind = 0; kind < 10; kind++) {
            model.image(1);
            hall.image(1);
            int told = kind;
            Object answer = Check.outcome(() -> model.letter(from, to, told));
            same("letter(" + from + ", " + to + ", " + told, () -> hall.letter(from, to, told), () -> answer);
            if (answer.equals(Boolean.TRUE)) {
                return;
            }
            model.restore(1);
            hall.restore(1);
        }
    }

    private void keepAndCount() {
        int image = number(2);
        switch (random.nextInt(8)) {
            case 0 -> same("image(" + image, () -> hall.image(image), () -> model.image(image));
            case 1 -> same("restore(" + image, () -> hall.restore(image), () -> model.restore(image));
            case 2 -> same("checksum()", () -> hall.checksum(), () -> model.checksum());
            case 3 -> same("meanKinds()", () -> hall.meanKinds(), () -> model.meanKinds());
            case 4 -> same("cutShare()", () -> hall.cutShare(), () -> model.cutShare());
            case 5 -> same("errors()", () -> hall.errors(), () -> model.errors());
            case 6 -> same("clearTape()", () -> hall.clearTape(), () -> model.clearTape());
            default -> same("errorPosition()", () -> hall.errorPosition(), () -> model.errorPosition());
        }
    }
}
