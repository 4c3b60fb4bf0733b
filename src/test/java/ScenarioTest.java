import java.util.ArrayList;
import java.util.List;
import java.util.Random;

/** Holds the class against the model in scenes that go deep: all of a whole, parts at odds, long runs. */
public final class ScenarioTest {
    private static final int SCENES = 2500;

    private final Random random;
    private final Texts texts;
    private final Handshakewarden hall = new Handshakewarden();
    private final Model model = new Model();
    private final List<String> told = new ArrayList<>();

    private ScenarioTest(int seed) {
        told.add("scene " + seed);
        random = new Random(seed);
        texts = new Texts(random);
    }

    public static void main(String[] args) {
        int first = args.length > 0 ? Integer.parseInt(args[0]) : 0;
        int count = args.length > 1 ? Integer.parseInt(args[1]) : SCENES;
        for (int seed = first; seed < first + count; seed++) {
            ScenarioTest scene = new ScenarioTest(seed);
            if (seed % 12 == 1) {
                scene.holdTurned();
            } else {
                scene.play(seed % 4);
            }
            scene.same("errors", () -> scene.hall.errors(), () -> scene.model.errors());
        }
        Check.end("ScenarioTest");
    }

    private void play(int what) {
        fillWholes();
        switch (what) {
            case 0 -> askAllOfWholes();
            case 1 -> holdParts();
            case 2 -> runOn(false);
            default -> runOn(true);
        }
    }

    private Object same(String call, Check.Call asked, Check.Call due) {
        Object answer = Check.outcome(due);
        Check.due(told + " " + call, answer, Check.outcome(asked));
        return answer;
    }

    private void fillWholes() {
        String text = texts.right();
        for (int whole = 0; whole < 4; whole++) {
            String next = whole == 0 ? text : random.nextInt(4) == 0 ? texts.any() : texts.variant(text);
            fill(whole, next.length() <= 240 ? next : "a>b{0:end}");
        }
    }

    private void fill(int whole, String text) {
        told.add(text);
        for (int at = 0; at < text.length(); at += 20) {
            int[] w = new int[5];
            for (int i = 0; i < 20; i++) {
                int letter = at + i < text.length() ? text.charAt(at + i) : 0;
                w[i / 4] |= letter << 24 - 8 * (i % 4);
            }
            same("append", () -> hall.append(w[0], w[1], w[2], w[3], w[4]),
                    () -> model.append(w[0], w[1], w[2], w[3], w[4]));
        }
        same("read(" + whole, () -> hall.read(whole), () -> model.read(whole));
        same("errorPosition", () -> hall.errorPosition(), () -> model.errorPosition());
    }

    private void askAllOfWholes() {
        for (int whole = 0; whole < 4; whole++) {
            int w = whole;
            int places = (Integer) same("places", () -> hall.places(w), () -> model.places(w));
            same("roles(" + w, () -> hall.roles(w), () -> model.roles(w));
            same("cut(" + w, () -> hall.cut(w), () -> model.cut(w));
            for (int i = 0; i < 4; i++) {
                int other = i;
                same("areAlike(" + w + "," + other, () -> hall.areAlike(w, other),
                        () -> model.areAlike(w, other));
                same("why(" + w + "," + other, () -> hall.why(w, other), () -> model.why(w, other));
            }
            for (int i = 0; i <= places; i++) {
                int place = i;
                for (int what = 0; what < 4; what++) {
                    int asked = what;
                    same("placeAt(" + w + "," + place + "," + asked, () -> hall.placeAt(w, place, asked),
                            () -> model.placeAt(w, place, asked));
                }
                for (int k = 0; k < 10; k++) {
                    int kind = k;
                    same("next(" + w + "," + place + "," + kind, () -> hall.next(w, place, kind),
                            () -> model.next(w, place, kind));
                }
            }
            for (int i = 0; i <= 12; i++) {
                int length = i;
                same("rows(" + w + "," + length, () -> hall.rows(w, length), () -> model.rows(w, length));
            }
        }
        same("meanKinds", () -> hall.meanKinds(), () -> model.meanKinds());
        same("cutShare", () -> hall.cutShare(), () -> model.cutShare());
    }

    /** The parts of one or two roles of all wholes in the slots, some of them turned, all held. */
    private void holdParts() {
        int role = random.nextInt(6);
        for (int i = 0; i < 12; i++) {
            role = random.nextInt(3) == 0 ? random.nextInt(6) : role;
            int slot = random.nextInt(8);
            int one = role;
            int whole = random.nextInt(4);
            int to = random.nextInt(8);
            same("part(" + whole + "," + one + "," + slot, () -> hall.part(whole, one, slot),
                    () -> model.part(whole, one, slot));
            if (random.nextInt(3) == 0) {
                same("mirror(" + slot + "," + to, () -> hall.mirror(slot, to), () -> model.mirror(slot, to));
            }
        }
        holdSlots();
        same("checksum", () -> hall.checksum(), () -> model.checksum());
    }

    private void holdSlots() {
        for (int i = 0; i < 8; i++) {
            askPart(i);
            for (int j = 0; j < 8; j++) {
                holdPair(i, j);
            }
        }
    }

    /** Wholes that are nearly the same, of a and one other role each; most slots get mirrors of role a. */
    private void holdTurned() {
        String text = texts.ofTwo();
        for (int whole = 0; whole < 4; whole++) {
            String next = random.nextInt(3) == 0 ? text : texts.variant(text);
            next = Texts.withoutB(next, (char) ('b' + random.nextInt(3)));
            fill(whole, next.length() <= 240 ? next : "a>b{0:end}");
        }
        for (int i = 0; i < 16; i++) {
            int whole = random.nextInt(4);
            int role = random.nextInt(4);
            int slot = i % 8;
            same("part(" + whole + "," + role + "," + slot, () -> hall.part(whole, role, slot),
                    () -> model.part(whole, role, slot));
            if (role > 0) {
                same("mirror(" + slot, () -> hall.mirror(slot, slot), () -> model.mirror(slot, slot));
            }
        }
        holdSlots();
    }

    private void askPart(int slot) {
        same("roleOf(" + slot, () -> hall.roleOf(slot), () -> model.roleOf(slot));
        int states = (Integer) same("states(" + slot, () -> hall.states(slot), () -> model.states(slot));
        for (int i = 0; i <= states; i++) {
            int state = i;
            for (int what = 0; what < 3; what++) {
                int asked = what;
                same("stateAt(" + slot + "," + state + "," + asked, () -> hall.stateAt(slot, state, asked),
                        () -> model.stateAt(slot, state, asked));
            }
            for (int k = 0; k < 10; k++) {
                int kind = k;
                same("step(" + slot + "," + state + "," + kind, () -> hall.step(slot, state, kind),
                        () -> model.step(slot, state, kind));
            }
        }
    }

    private void holdPair(int slot, int other) {
        String s = "(" + slot + "," + other;
        same("isBelow" + s, () -> hall.isBelow(slot, other), () -> model.isBelow(slot, other));
        same("fit" + s, () -> hall.fit(slot, other), () -> model.fit(slot, other));
        int length = (Integer) same("shows" + s, () -> hall.shows(slot, other),
                () -> model.shows(slot, other));
        for (int i = -1; i <= length; i++) {
            int place = i;
            same("showsAt" + s + "," + place, () -> hall.showsAt(slot, other, place),
                    () -> model.showsAt(slot, other, place));
        }
    }

    /** A run, with other parts put in or without, looked through, gone along, and woven. */
    private void runOn(boolean changed) {
        int whole = beginSomewhere();
        if (whole < 0) {
            return;
        }
        for (int i = 0; changed && i < 1 + random.nextInt(4); i++) {
            int from = random.nextInt(4);
            int role = random.nextInt(6);
            same("part(" + from + "," + role, () -> hall.part(from, role, 0), () -> model.part(from, role, 0));
            if (random.nextInt(6) == 0) {
                same("mirror", () -> hall.mirror(0, 0), () -> model.mirror(0, 0));
            }
            same("put", () -> hall.put(0), () -> model.put(0));
        }
        lookThrough();
        stepAlong(10 + random.nextInt(40));
        tellLetters(3 + random.nextInt(15));
        int to = random.nextInt(4);
        Object made = same("back(" + to, () -> hall.back(to), () -> model.back(to));
        if (made.equals(Model.NONE)) {
            same("places(" + to, () -> hall.places(to), () -> model.places(to));
        }
        askAllOfWholes();
        same("checksum", () -> hall.checksum(), () -> model.checksum());
    }

    private int beginSomewhere() {
        for (int whole = 0; whole < 4; whole++) {
            int w = whole;
            int bound = 1 + random.nextInt(5);
            Object begun = same("begin(" + w + "," + bound, () -> hall.begin(w, bound), () -> model.begin(w, bound));
            if (begun instanceof Integer && (random.nextBoolean() || whole == 3)) {
                return whole;
            }
        }
        return model.stands() == Model.NONE ? -1 : 0;
    }

    private void lookThrough() {
        for (int i = 1; i <= 5; i++) {
            int bound = i;
            for (int what = 0; what < 5; what++) {
                int asked = what;
                same("all(" + bound + "," + asked, () -> hall.all(bound, asked),
                        () -> model.all(bound, asked));
            }
            for (int j = -1; j < 6; j++) {
                int place = j;
                same("ringAt(" + bound + "," + place, () -> hall.ringAt(bound, place),
                        () -> model.ringAt(bound, place));
            }
        }
        same("least", () -> hall.least(), () -> model.least());
    }

    private void stepAlong(int most) {
        for (int i = 0; i < most; i++) {
            int role = random.nextInt(6);
            if (random.nextInt(5) < 2) {
                same("hear(" + role, () -> hall.hear(role), () -> model.hear(role));
            } else {
                int first = random.nextInt(10);
                for (int k = 0; k < 10; k++) {
                    int kind = (first + k) % 10;
                    Object sent = same("send(" + role + "," + kind, () -> hall.send(role, kind),
                            () -> model.send(role, kind));
                    if (sent instanceof Integer) {
                        break;
                    }
                }
            }
            same("stands", () -> hall.stands(), () -> model.stands());
            same("sent", () -> hall.sent(), () -> model.sent());
            same("stateOf(" + role, () -> hall.stateOf(role), () -> model.stateOf(role));
            if (random.nextInt(20) == 0) {
                same("image", () -> hall.image(0), () -> model.image(0));
            }
            if (random.nextInt(20) == 0) {
                same("restore", () -> hall.restore(0), () -> model.restore(0));
            }
        }
        askQueues();
    }

    private void askQueues() {
        for (int i = 0; i < 36; i++) {
            int from = i / 6;
            int to = i % 6;
            same("queue(" + from + "," + to, () -> hall.queue(from, to), () -> model.queue(from, to));
            for (int j = -1; j < 6; j++) {
                int place = j;
                same("queueAt(" + from + "," + to + "," + place, () -> hall.queueAt(from, to, place),
                        () -> model.queueAt(from, to, place));
            }
        }
    }

    private void tellLetters(int most) {
        for (int i = 0; i < most; i++) {
            List<int[]> right = rightLetters();
            int[] letter = right.isEmpty() || random.nextInt(12) == 0
                    ? new int[] {random.nextInt(6), random.nextInt(6), random.nextInt(10)}
                    : right.get(random.nextInt(right.size()));
            same("letter(" + letter[0] + "," + letter[1] + "," + letter[2],
                    () -> hall.letter(letter[0], letter[1], letter[2]),
                    () -> model.letter(letter[0], letter[1], letter[2]));
            same("blame(0)", () -> hall.blame(0), () -> model.blame(0));
            same("blame(1)", () -> hall.blame(1), () -> model.blame(1));
        }
    }

    /** Letters that the model's monitor takes now; it is put back behind each try. */
    private List<int[]> rightLetters() {
        List<int[]> right = new ArrayList<>();
        model.image(1);
        for (int i = 0; i < 360; i++) {
            int[] letter = {i / 60, i / 10 % 6, i % 10};
            if (Check.outcome(() -> model.letter(letter[0], letter[1], letter[2])).equals(true)) {
                right.add(letter);
            }
            model.restore(1);
        }
        return right;
    }
}
