import java.util.List;
import java.util.Set;

/** Parts of hundreds and thousands of states, whose unlikeness shows late or among very many pairs of states. */
public final class FarTest {
    static final String[][] TEXTS = {
        {
            "loop x a>b{0:loop y c>d{0:c>d{0:c>d{0:c>d{0:c>d{0:y},1:x},1:x},1:x},1:x},1:loop y c>d{0:c>d{0:c>"
                    + "d{0:c>d{0:c>d{0:c>d{0:y},1:x},1:x},1:x},1:x},1:x},2:loop y c>d{0:c>d{0:c>d{0:c>d{0:c>d{0:c>d{0:c"
                    + ">d{0:y},1:x},1:x},1:x},1:x},1:x},1:x}}",
            "c>d{1:c>d{1:c>d{1:loop y c>d{0:a>b{0:c>d{0:c>d{0:a>b{1:loop x c>d{0:c>d{0:y,1:x},1:c>d{0:x,1:x}}"
                    + "},1:y},1:c>d{0:a>b{0:y,1:loop z c>d{0:c>d{0:z,1:y},1:z}},1:c>d{0:y}}}},1:a>b{0:loop x c>d{0:loop"
                    + " z c>d{0:c>d{0:x,1:x},1:z},1:c>d{0:x,1:y}}}}}}}"
        },
        {
            "loop y a>b{1:a>b{2:c>d{0:loop z c>d{0:z,1:y}},1:c>d{0:loop x c>d{0:loop z c>d{1:z,0:c>d{2:y,1:c>"
                    + "d{0:y,1:y},0:y},2:z},2:loop z c>d{1:z,2:x,0:z},1:x},1:loop z c>d{0:c>d{1:loop x c>d{0:x,2:x,1:c>"
                    + "d{2:z,0:z,1:x}},2:z,0:z},2:z,1:z},2:y}},0:y,2:y}",
            "loop x c>d{1:c>d{0:loop y c>d{0:loop z c>d{0:c>d{1:c>d{0:c>d{0:z}},0:y},1:z},1:loop z c>d{0:c>d{"
                    + "0:c>d{0:z},2:y,1:c>d{0:z,1:c>d{0:z}}},1:y},2:c>d{0:x}},1:x},0:loop z c>d{0:loop y c>d{0:c>d{1:y,"
                    + "0:c>d{0:x,1:x}},1:a>b{1:c>d{0:x},2:y}},1:z}}"
        },
        {
            "loop x c>d{0:loop z c>d{1:z,0:loop y c>d{1:c>d{0:c>d{1:y,0:z},1:y},0:c>d{1:z,0:z}}},1:a>b{0:c>d{"
                    + "0:loop y c>d{0:c>d{1:c>d{1:y,0:c>d{1:y}},0:y},1:x},1:x},1:c>d{0:loop y c>d{1:c>d{1:c>d{0:loop z "
                    + "c>d{1:z,0:c>d{1:y}},1:y},0:x},0:y},1:x}}}",
            "loop x c>d{1:c>d{1:loop y c>d{0:loop z c>d{0:c>d{1:c>d{1:z}},1:c>d{1:a>b{0:c>d{0:c>d{1:z}},1:c>d"
                    + "{1:c>d{1:z,0:y},0:z}},0:c>d{1:x}}},1:c>d{1:a>b{0:c>d{0:c>d{1:c>d{1:c>d{1:x,0:y}}}},1:x},0:c>d{1:"
                    + "y}}},0:c>d{1:loop z c>d{1:c>d{1:z,0:x},0:z}}}}"
        },
        {
            "loop x c>d{1:c>d{1:loop y c>d{1:loop z c>d{0:a>b{0:z,1:x},1:x},0:loop z c>d{0:y,1:c>d{0:y,1:c>d{"
                    + "0:y,1:c>d{0:y,1:c>d{1:z}}}}}},0:a>b{0:loop y c>d{1:y,0:x},1:c>d{0:x,1:x}}},0:a>b{1:loop z c>d{1:"
                    + "a>b{1:x,0:c>d{1:z}},0:c>d{1:c>d{1:x}}},0:x}}",
            "c>d{0:c>d{0:loop x c>d{1:c>d{1:c>d{1:c>d{1:c>d{1:c>d{1:c>d{1:c>d{1:c>d{0:x,1:x}}}}}}}}},1:loop x"
                    + " c>d{1:c>d{1:c>d{1:c>d{1:c>d{1:c>d{0:x,1:x}}}}}}},1:loop y c>d{1:c>d{1:c>d{1:a>b{1:c>d{1:y}}}},0"
                    + ":c>d{0:y,1:y}}}"
        },
        {
            "loop x c>d{2:loop y a>b{2:c>d{0:loop z c>d{2:z,1:z,0:x},1:y,2:y},0:x,1:x},1:loop z c>d{1:c>d{2:l"
                    + "oop y c>d{1:c>d{1:c>d{1:c>d{2:c>d{1:y,2:z},1:y},2:a>b{1:z,2:x}},2:z},2:a>b{2:c>d{1:a>b{2:c>d{1:y"
                    + ",0:y,2:y},1:y}},1:z,0:y},0:y},1:x},2:x,0:z},0:x}",
            "loop z loop y c>d{2:c>d{2:loop x c>d{1:c>d{1:c>d{1:c>d{1:c>d{1:c>d{1:c>d{1:x,2:y}}}},2:x},2:c>d{"
                    + "0:c>d{1:a>b{2:a>b{1:a>b{2:z,0:z}}}}}}},1:loop x c>d{1:a>b{1:c>d{1:c>d{2:z,1:c>d{2:c>d{1:c>d{1:x}"
                    + "}}}}}}}}"
        },
        {
            "loop y c>d{2:loop z c>d{0:z,1:z},0:a>b{2:loop z a>b{0:loop x c>d{2:z,0:c>d{0:c>d{0:c>d{1:y,0:x},"
                    + "1:z},1:c>d{0:z,1:z}},1:x},1:c>d{0:loop x c>d{0:c>d{0:c>d{0:x},1:c>d{0:y}},2:y,1:x}}},0:loop x c>"
                    + "d{0:c>d{0:c>d{1:y,0:c>d{0:c>d{0:x}}},1:x}}},1:y}",
            "loop x c>d{0:c>d{0:c>d{1:c>d{1:c>d{1:c>d{2:c>d{0:loop z c>d{0:c>d{0:c>d{0:z,1:x}}}}}}},0:x},1:lo"
                    + "op y c>d{1:loop z c>d{0:c>d{1:y,0:c>d{1:c>d{0:z,1:c>d{0:y,1:z}},0:z}},1:c>d{1:a>b{1:z,0:y},0:z}}"
                    + ",0:loop z c>d{1:c>d{0:y,1:z},0:c>d{0:y,1:z}}}}}"
        },
        {
            "loop x c>d{0:loop z c>d{1:c>d{1:c>d{1:c>d{1:c>d{1:c>d{0:x,1:c>d{1:c>d{1:z},0:x}},0:x},0:x},0:x},"
                    + "0:x},0:loop y c>d{1:a>b{0:y,1:x}}},1:loop y c>d{1:loop z c>d{1:c>d{1:c>d{1:x,0:z},0:a>b{0:c>d{1:"
                    + "x},1:y}},0:a>b{0:y,1:x}},0:a>b{1:c>d{1:x},0:y}}}",
            "c>d{0:c>d{0:loop x c>d{1:c>d{1:c>d{1:c>d{1:c>d{1:c>d{1:c>d{1:c>d{1:c>d{1:x,0:x}}}}}}}}}},1:c>d{0"
                    + ":loop z loop y c>d{1:c>d{1:c>d{1:c>d{1:c>d{1:c>d{1:c>d{1:z,0:c>d{0:y}}},0:c>d{0:y}}}}}}}}"
        },
        {
            "loop z c>d{0:d>c{1:loop y c>d{0:d>c{1:a>b{1:loop x c>d{0:d>c{1:y},1:x},0:loop x c>d{0:d>c{1:x},1"
                    + ":c>d{0:d>c{1:c>d{1:x}},1:y}}}},1:loop x c>d{0:d>c{1:c>d{0:d>c{1:x},1:y}},1:c>d{0:d>c{1:x},1:y}}}"
                    + "},1:c>d{0:d>c{1:c>d{0:d>c{1:z,0:z},1:z}},1:z}}",
            "loop z c>d{1:loop x c>d{0:d>c{1:x,0:a>b{1:x,0:z}},1:c>d{0:d>c{1:loop y c>d{0:d>c{0:y,1:z},1:y},0"
                    + ":z},1:a>b{1:x,0:z}}},0:d>c{1:c>d{0:d>c{1:loop x c>d{0:d>c{1:loop y c>d{0:d>c{0:x,1:x},1:y}},1:lo"
                    + "op y c>d{0:d>c{1:y,0:y},1:x}},0:z},1:z},0:z}}"
        },
        {
            "loop x d>c{0:d>c{2:loop y d>c{1:c>d{1:d>c{1:c>d{1:d>c{1:c>d{1:y},0:y},0:x},0:a>b{2:loop z d>c{1:"
                    + "c>d{1:z},0:d>c{1:c>d{1:y},0:z}},1:y}}},0:loop z d>c{1:c>d{1:z},0:d>c{1:c>d{1:y},0:d>c{1:c>d{1:z}"
                    + ",0:y}}}},1:c>d{1:loop z d>c{1:c>d{1:x},0:z}}}}",
            "loop y d>c{1:c>d{1:loop x d>c{1:c>d{1:loop z d>c{1:c>d{1:y},0:z,2:x}},0:x}},0:a>b{2:loop z d>c{1"
                    + ":c>d{1:d>c{1:c>d{1:z},0:z}},0:loop x d>c{1:c>d{1:d>c{1:c>d{1:x},0:x}},0:y,2:x},2:z},0:loop x d>c"
                    + "{1:c>d{1:loop z d>c{1:c>d{1:x},0:z}},0:y}},2:y}"
        },
        {
            "loop y c>d{0:d>c{1:loop x c>d{0:d>c{1:loop z c>d{1:a>b{1:x,0:z},0:d>c{0:c>d{1:y},1:y}},0:x},1:lo"
                    + "op z c>d{0:d>c{1:z,0:z},1:a>b{0:y,1:x}}},0:y},1:loop x c>d{0:d>c{1:x,0:x},1:loop z c>d{0:d>c{0:z"
                    + ",1:y},1:c>d{0:d>c{0:z,1:z},1:a>b{1:y,0:x}}}}}",
            "c>d{1:loop y c>d{0:d>c{0:c>d{1:a>b{0:loop x c>d{0:d>c{0:x,1:c>d{1:x}},1:loop z c>d{0:d>c{1:x,0:z"
                    + "},1:c>d{0:d>c{0:x,1:z},1:x}}},1:y}},1:y},1:loop x c>d{0:d>c{1:loop z c>d{1:c>d{0:d>c{1:x,0:z},1:"
                    + "c>d{0:d>c{0:z,1:x},1:z}}},0:a>b{0:y,1:x}},1:y}}}"
        }
    };

    /**
     * For each two texts: the role of the second one's part (the first one's is d), the numbers of their
     * states, and the length of the row that shows (of c, against the mirror of its part).
     */
    static final int[][] DUE = {
        {3, 210, 1338, 212},
        {3, 527, 2953, 63},
        {3, 1254, 2899, 56},
        {3, 309, 22, 838},
        {3, 248, 17, 787},
        {2, 2645, 137, 59},
        {2, 366, 21, 1009},
        {2, 159, 382, 32},
        {2, 157, 362, 39},
        {3, 204, 271, 25}
    };

    static final String MANY = "loop z c>d{1:loop x c>d{1:c>d{1:loop y c>d{1:c>d{1:c>d{1:c>d{0:y,1:z},0:c>d{1:y}}}},0:loop y c>d"
            + "{1:c>d{1:c>d{1:c>d{1:c>d{1:y}},0:z},0:c>d{1:a>b{0:y,1:z}}}}},0:x},0:c>d{1:loop y c>d{1:c>d{1:loo"
            + "p x c>d{1:c>d{1:c>d{1:c>d{1:y,0:x},0:y}}}}}}}";
    static final String EVEN = "loop y c>d{1:c>d{0:loop z c>d{0:loop x c>d{0:c>d{1:a>b{0:y,1:z},0:c>d{1:z,0:z}},1:x},1:loop x c>"
            + "d{0:c>d{0:x,1:z},1:c>d{0:x,1:y}}},1:loop x c>d{0:loop z c>d{1:z,0:x},1:loop z c>d{0:z,1:x}}},0:l"
            + "oop z c>d{1:loop x c>d{1:z,0:x},0:c>d{0:y,1:y}}}";
    private static final String[] WAYS = {
        "loop x e>f{0:d>a{0:d>a{0:e>c{2:loop z c>b{0:c>b{0:c>b{0:z},1:z},1:loop y c>b{1:c>b{0:x},0:y,2:y}"
                + ",2:z},0:e>f{1:loop y c>b{1:d>a{0:x},2:c>b{0:x,1:y},0:c>b{0:y}}}}}},2:x,1:loop y e>f{2:loop z e>f"
                + "{2:e>f{0:e>f{2:x}},0:z,1:z},0:y,1:e>f{1:x,2:y}}}",
        "loop y e>c{0:loop x a>b{1:loop z b>f{1:a>b{1:b>f{0:b>f{0:e>d{1:y,0:e>d{1:x}},1:z},1:b>f{1:x,0:x}"
                + "},0:z},0:z},0:b>f{1:loop z b>f{0:z,1:b>f{1:x}},0:b>f{1:x}}},1:loop z e>d{0:loop x e>d{0:e>c{1:e>"
                + "c{1:z},0:z},1:x},1:loop x e>d{0:x,1:e>d{0:y}}}}"
    };

    private static final int C = 2;
    private static final int D = 3;

    public static void main(String[] args) {
        for (int i = 0; i < TEXTS.length; i++) {
            farPair(TEXTS[i][0], TEXTS[i][1], DUE[i]);
        }
        manyStates();
        evenSender();
        manyWays();
        Check.end("FarTest");
    }

    private static Model.Part partOf(String text, int role) {
        return new Model.Whole(new Model.Parser(text).all()).part(role);
    }

    /** Both parts and their mirrors in slots, each held against each. */
    private static void farPair(String text, String other, int[] due) {
        Handshakewarden hall = Check.hallOf(text, other);
        Check.due("states of one", due[1], hall.part(0, D, 0));
        Check.due("states of two", due[2], hall.part(1, due[0], 1));
        Model.Part one = partOf(text, D);
        Model.Part two = partOf(other, due[0]);
        samePart(hall, 0, one);
        samePart(hall, 1, two);
        hall.mirror(0, 2);
        hall.mirror(1, 3);
        Model.Part[] parts = {one, two, Model.mirrorOf(one), Model.mirrorOf(two)};
        Check.due("length of the row", due[3], hall.shows(0, due[0] == D ? 1 : 3));
        for (int i = 0; i < 4; i++) {
            for (int j = 0; j < 4; j++) {
                holdAgainst(hall, i, parts[i], j, parts[j]);
            }
        }
    }

    private static void samePart(Handshakewarden hall, int slot, Model.Part part) {
        Check.due("role", part.role(), hall.roleOf(slot));
        Check.due("states", part.states().size(), hall.states(slot));
        for (int state = 0; state < part.states().size(); state++) {
            Model.State due = part.states().get(state);
            Check.due("sort", "ESH".indexOf(due.sort), hall.stateAt(slot, state, 0));
            Check.due("other", due.other, hall.stateAt(slot, state, 1));
            int kinds = 0;
            for (int kind = 0; kind < 10; kind++) {
                kinds += due.next.containsKey(kind) ? 1 << kind : 0;
                Check.due("step", due.next.getOrDefault(kind, -1), hall.step(slot, state, kind));
            }
            Check.due("kinds", kinds, hall.stateAt(slot, state, 2));
        }
    }

    private static void holdAgainst(Handshakewarden hall, int i, Model.Part one, int j, Model.Part two) {
        String call = "(" + i + ", " + j + ")";
        List<Integer> row = one.role() == two.role() ? Model.shown(one, two) : null;
        int length = row == null ? -1 : row.size();
        Check.due("isBelow" + call, one.role() == two.role() && row == null, hall.isBelow(i, j));
        Check.due("shows" + call, length, hall.shows(i, j));
        for (int place = 0; place < length; place++) {
            Check.due("showsAt" + call, row.get(place), hall.showsAt(i, j, place));
        }
        if (length > 0) {
            Check.due("showsAt, back to the first", row.get(0), hall.showsAt(i, j, 0));
            Check.due("showsAt, the last", row.get(length - 1), hall.showsAt(i, j, length - 1));
            Check.due("shows, again", length, hall.shows(i, j));
        }
        Check.dueOutOfBounds("showsAt behind the row", () -> hall.showsAt(i, j, Math.max(length, 0)));
        Check.dueOutOfBounds("showsAt ahead of the row", () -> hall.showsAt(i, j, -1));
        boolean others = one.others().equals(Set.of(two.role()))
                && two.others().equals(Set.of(one.role()));
        Check.due("fit" + call, others && Model.shown(one, Model.mirrorOf(two)) == null, hall.fit(i, j));
    }

    private static void manyStates() {
        Handshakewarden hall = Check.hallOf(MANY);
        Check.due("very many states", 29623, hall.part(0, D, 0));
        samePart(hall, 0, partOf(MANY, D));
        hall.mirror(0, 1);
        Check.due("below itself", true, hall.isBelow(0, 0));
        Check.due("mirror below itself", true, hall.isBelow(1, 1));
        Check.due("errors", 0, hall.errors());
    }

    /** The part of c sends, the part of d hears, and both have the same sets of places. */
    private static void evenSender() {
        Handshakewarden hall = Check.hallOf(EVEN, MANY);
        Check.due("states of c", 8255, hall.part(0, C, 0));
        Check.due("states of d", 8255, hall.part(0, D, 1));
        Check.due("states of another d", 29623, hall.part(1, D, 2));
        Check.due("c fits d", true, hall.fit(0, 1));
        Check.due("d fits c", true, hall.fit(1, 0));
        Check.due("c does not fit the other d", false, hall.fit(0, 2));
        Check.due("nor the other d c", false, hall.fit(2, 0));
        hall.mirror(0, 3);
        Check.due("d is below the mirror of c", true, hall.isBelow(1, 3));
        Check.due("and the mirror below d", true, hall.isBelow(3, 1));
        holdAgainst(hall, 2, partOf(MANY, D), 3, Model.mirrorOf(partOf(EVEN, C)));
        holdAgainst(hall, 3, Model.mirrorOf(partOf(EVEN, C)), 2, partOf(MANY, D));
        Check.due("errors", 0, hall.errors());
    }

    /** Thousands of configurations are come to by twelve letters. */
    private static void manyWays() {
        for (String text : WAYS) {
            Handshakewarden hall = Check.hallOf(text);
            Model model = new Model();
            for (int i = 0; i < text.length(); i++) {
                model.append(text.charAt(i), 0, 0, 0, 0);
            }
            model.read(0);
            for (int length = 0; length <= 12; length++) {
                Check.due("rows of " + length, model.rows(0, length), hall.rows(0, length));
            }
        }
    }
}
