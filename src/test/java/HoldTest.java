import java.util.ArrayList;
import java.util.List;
import java.util.Random;

/**
 * Parts stay what they are while somebody has them, in a slot, a run or an image, although wholes are read,
 * woven and cut all the time: after each change all slots are looked at, state by state, and now and then
 * the run, too. (These are more calls than are promised to one object; the class does not count them.)
 */
public final class HoldTest {
    private static final int SCENES = 150;
    private static final int CHANGES = 40;

    private final Random random;
    private final Texts texts;
    private final Handshakewarden hall = new Handshakewarden();
    private final Model model = new Model();
    private final List<String> told = new ArrayList<>();

    private HoldTest(int seed) {
        told.add("scene " + seed);
        random = new Random(seed);
        texts = new Texts(random);
    }

    public static void main(String[] args) {
        int first = args.length > 0 ? Integer.parseInt(args[0]) : 0;
        int count = args.length > 1 ? Integer.parseInt(args[1]) : SCENES;
        for (int seed = first; seed < first + count; seed++) {
            new HoldTest(seed).hold();
        }
        Check.end("HoldTest");
    }

    private void same(String call, Check.Call asked, Check.Call due) {
        Check.due(told + " " + call, Check.outcome(due), Check.outcome(asked));
    }

    private void hold() {
        for (int change = 0; change < CHANGES; change++) {
            change(random.nextInt(12));
            lookAtSlots();
            if (random.nextInt(4) == 0) {
                lookAtRun();
            }
        }
    }

    private void change(int what) {
        int whole = random.nextInt(4);
        int role = random.nextInt(3);
        int slot = random.nextInt(8);
        int to = random.nextInt(8);
        int image = random.nextInt(2);
        told.add(what + ":" + whole + role + slot + to + image);
        switch (what) {
            case 0, 1, 2 -> read(whole);
            case 3, 4, 5 -> same("part", () -> hall.part(whole, role, slot), () -> model.part(whole, role, slot));
            case 6 -> same("mirror", () -> hall.mirror(slot, to), () -> model.mirror(slot, to));
            case 7 -> same("begin", () -> hall.begin(whole, 2), () -> model.begin(whole, 2));
            case 8 -> same("put", () -> hall.put(slot), () -> model.put(slot));
            case 9 -> same("back", () -> hall.back(whole), () -> model.back(whole));
            case 10 -> same("image", () -> hall.image(image), () -> model.image(image));
            default -> same("restore", () -> hall.restore(image), () -> model.restore(image));
        }
    }

    private void read(int whole) {
        String text = texts.right();
        if (text.length() > 240) {
            return;
        }
        told.add(text);
        hall.clearTape();
        model.clearTape();
        for (int at = 0; at < text.length(); at++) {
            int letter = text.charAt(at);
            hall.append(letter, 0, 0, 0, 0);
            model.append(letter, 0, 0, 0, 0);
        }
        same("read", () -> hall.read(whole), () -> model.read(whole));
        same("cut", () -> hall.cut(whole), () -> model.cut(whole));
    }

    private void lookAtSlots() {
        for (int i = 0; i < 8; i++) {
            int slot = i;
            same("roleOf", () -> hall.roleOf(slot), () -> model.roleOf(slot));
            same("states", () -> hall.states(slot), () -> model.states(slot));
            for (int j = 0; j < model.states(slot); j++) {
                int state = j;
                for (int what = 0; what < 3; what++) {
                    int asked = what;
                    same("stateAt", () -> hall.stateAt(slot, state, asked), () -> model.stateAt(slot, state, asked));
                }
                for (int k = 0; k < 10; k++) {
                    int kind = k;
                    same("step", () -> hall.step(slot, state, kind), () -> model.step(slot, state, kind));
                }
            }
        }
    }

    private void lookAtRun() {
        for (int what = 0; what < 5; what++) {
            int asked = what;
            same("all", () -> hall.all(1, asked), () -> model.all(1, asked));
        }
        int one = random.nextInt(8);
        int two = random.nextInt(8);
        same("shows", () -> hall.shows(one, two), () -> model.shows(one, two));
        same("fit", () -> hall.fit(one, two), () -> model.fit(one, two));
        same("letter", () -> hall.letter(0, 1, 0), () -> model.letter(0, 1, 0));
        for (int role = 0; role < 6; role++) {
            int asked = role;
            same("send", () -> hall.send(asked, 0), () -> model.send(asked, 0));
            same("hear", () -> hall.hear(asked), () -> model.hear(asked));
        }
        same("checksum", () -> hall.checksum(), () -> model.checksum());
    }
}
