/** Texts whose parts have hundreds of states, as sets of places may be many: held against the model. */
public final class BigTest {
    private static final String[] TEXTS = {
        "loop x c>d{2:a>b{0:loop y a>b{0:c>d{1:loop z a>b{2:a>b{2:c>d{1:a>b{2:z,1:z}},0:a>b{2:a>b{2:a>b{2:x,0:x}}}},"
                + "0:a>b{2:c>d{1:y,2:z}}}},2:loop z c>d{0:a>b{2:a>b{2:a>b{2:y,1:y}}}}},2:c>d{1:c>d{2:a>b{0:x,2:x}}}}}",
        "loop x loop y c>d{2:loop z a>b{1:a>b{2:x,0:a>b{1:a>b{0:x},2:z}},0:a>b{1:a>b{1:z,0:z},2:a>b{2:a>b{1:z},0:x}}},"
                + "0:a>b{1:y,2:a>b{0:a>b{0:x,2:loop z c>d{0:a>b{0:z,2:a>b{0:a>b{2:x,1:x}}},1:a>b{1:z}}},"
                + "1:loop z c>d{2:a>b{2:z,0:a>b{1:z,2:z}}}}}}",
        "loop x c>d{0:a>b{0:x,2:a>b{2:a>b{2:a>b{1:loop y loop z a>b{1:a>b{2:a>b{2:a>b{2:x}},1:c>d{1:a>b{0:y,2:y},2:x}},"
                + "2:a>b{1:a>b{2:y,1:y},2:z}}}}}},1:a>b{2:c>d{2:a>b{1:loop y a>b{2:c>d{2:y},1:a>b{1:x,"
                + "2:c>d{1:x,2:a>b{2:x,0:y}}}}}},1:x}}"
    };
    private static final int[] STATES = {279, 222, 235};

    private final Handshakewarden hall = new Handshakewarden();
    private final Model model = new Model();

    public static void main(String[] args) {
        BigTest test = new BigTest();
        for (int whole = 0; whole < 3; whole++) {
            test.fill(whole);
            test.holdParts(whole);
        }
        test.holdSlots();
        Check.end("BigTest");
    }

    private void same(String call, Check.Call asked, Check.Call due) {
        Check.due(call, Check.outcome(due), Check.outcome(asked));
    }

    private void fill(int whole) {
        String text = TEXTS[whole];
        for (int i = 0; i < text.length(); i++) {
            int letter = text.charAt(i);
            hall.append(letter, 0, 0, 0, 0);
            model.append(letter, 0, 0, 0, 0);
        }
        same("read", () -> hall.read(whole), () -> model.read(whole));
        same("cut", () -> hall.cut(whole), () -> model.cut(whole));
        for (int i = 0; i < 3; i++) {
            int what = i;
            same("why", () -> hall.why(whole, what), () -> model.why(whole, what));
        }
    }

    private void holdParts(int whole) {
        Check.due("states of b", STATES[whole], hall.part(whole, 1, 2 * whole));
        model.part(whole, 1, 2 * whole);
        same("part of d", () -> hall.part(whole, 3, 2 * whole + 1), () -> model.part(whole, 3, 2 * whole + 1));
        int slot = 2 * whole;
        for (int i = 0; i < STATES[whole]; i++) {
            int state = i;
            for (int k = 0; k < 10; k++) {
                int kind = k;
                same("step " + state + ", " + kind, () -> hall.step(slot, state, kind),
                        () -> model.step(slot, state, kind));
            }
            same("kinds", () -> hall.stateAt(slot, state, 2), () -> model.stateAt(slot, state, 2));
        }
    }

    private void holdSlots() {
        same("mirror", () -> hall.mirror(0, 6), () -> model.mirror(0, 6));
        same("mirror", () -> hall.mirror(6, 7), () -> model.mirror(6, 7));
        for (int i = 0; i < 64; i++) {
            int one = i / 8;
            int other = i % 8;
            same("below " + one + ", " + other, () -> hall.isBelow(one, other), () -> model.isBelow(one, other));
            same("shows " + one + ", " + other, () -> hall.shows(one, other), () -> model.shows(one, other));
            same("fit " + one + ", " + other, () -> hall.fit(one, other), () -> model.fit(one, other));
        }
        same("checksum", () -> hall.checksum(), () -> model.checksum());
        same("errors", () -> hall.errors(), () -> model.errors());
        same("cutShare", () -> hall.cutShare(), () -> model.cutShare());
    }
}
