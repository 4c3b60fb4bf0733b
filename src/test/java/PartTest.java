/** Promises 15 to 23: mirror, roleOf, states, stateAt, step, isBelow, shows, showsAt, fit. */
public final class PartTest {
    private static final int NONE = Handshakewarden.NONE;

    public static void main(String[] args) {
        mirror();
        mirrorThatCannotBe();
        statesAndSteps();
        wrongNumbers();
        belowBySending();
        belowByHearing();
        belowOthers();
        rowsAreShortestAndFirst();
        unlikeRoles();
        fit();
        Check.end("PartTest");
    }

    /** Slot 0: the part of a role of one text; slot 1: that of the same role of another one. */
    private static Handshakewarden two(int role, String one, String other) {
        Handshakewarden hall = Check.hallOf(one, other);
        hall.part(0, role, 0);
        hall.part(1, role, 1);
        return hall;
    }

    private static void mirror() {
        Handshakewarden hall = Check.hallOf("loop x c>e{0:e>c{1:x,2:end},3:e>c{4:end}}");
        hall.part(0, 2, 0);
        Check.due("mirror of c", 4, hall.mirror(0, 6));
        Check.due("role of the mirror", 4, hall.roleOf(6));
        Check.due("the part stays", 2, hall.roleOf(0));
        Check.due("states of the mirror", 4, hall.states(6));
        int[][] due = {{2, 2, 9}, {1, 2, 6}, {1, 2, 16}, {0, NONE, 0}};
        for (int state = 0; state < 4; state++) {
            for (int what = 0; what < 3; what++) {
                Check.due("mirror " + state + ", " + what, due[state][what], hall.stateAt(6, state, what));
            }
            for (int kind = 0; kind < 10; kind++) {
                Check.due("mirror's step", hall.step(0, state, kind), hall.step(6, state, kind));
            }
        }
        Check.due("mirror of the mirror", 2, hall.mirror(6, 6));
        Check.due("in its own slot", 1, hall.stateAt(6, 0, 0));
        Check.due("it is the part again", true, hall.isBelow(6, 0) && hall.isBelow(0, 6));
    }

    private static void mirrorThatCannotBe() {
        Handshakewarden hall = Check.hallOf("a>b{0:b>c{0:c>a{0:end}}}", "loop x a>b{0:c>a{0:x}}");
        for (int role = 0; role < 3; role++) {
            hall.part(0, role, 0);
            Check.dueIllegalState("two others", () -> hall.mirror(0, 1));
        }
        hall.part(1, 0, 0);
        Check.dueIllegalState("two others in a loop", () -> hall.mirror(0, 1));
        Check.due("the slot stays", 1, hall.states(1));
        hall.part(0, 5, 0);
        Check.dueIllegalState("no other", () -> hall.mirror(0, 1));
        Check.dueIllegalState("a new slot", () -> hall.mirror(7, 7));
        Check.dueIllegalArgument("slot", () -> hall.mirror(-1, 0));
        Check.dueIllegalArgument("slot", () -> hall.mirror(8, 0));
        Check.dueIllegalArgument("to", () -> hall.mirror(7, 8));
        Check.dueIllegalArgument("to", () -> hall.mirror(7, -1));
        hall.part(1, 1, 0);
        Check.due("one other", 0, hall.mirror(0, 1));
    }

    private static void statesAndSteps() {
        Handshakewarden hall = Check.hallOf("a>b{7:b>a{0:end},3:a>b{9:end},5:end}");
        Check.due("states", 4, hall.part(0, 0, 3));
        Check.due("states(3)", 4, hall.states(3));
        Check.due("roleOf(3)", 0, hall.roleOf(3));
        Check.due("roleOf of a role that does not stand", 1, hall.part(0, 4, 2));
        Check.due("roleOf(2)", 4, hall.roleOf(2));
        Check.due("by ascending kinds", 1, hall.step(3, 0, 3));
        Check.due("by ascending kinds", 2, hall.step(3, 0, 5));
        Check.due("by ascending kinds", 3, hall.step(3, 0, 7));
        Check.due("no such kind", NONE, hall.step(3, 0, 4));
        Check.due("of END", NONE, hall.step(3, 2, 0));
        Check.due("back to END", 2, hall.step(3, 1, 9));
        Check.due("sort", 1, hall.stateAt(3, 1, 0));
        Check.due("other", 1, hall.stateAt(3, 1, 1));
        Check.due("kinds", 512, hall.stateAt(3, 1, 2));
        Check.due("sort", 2, hall.stateAt(3, 3, 0));
        Check.due("kinds", 1, hall.stateAt(3, 3, 2));
        Check.due("END's other", NONE, hall.stateAt(3, 2, 1));
        Check.due("END's kinds", 0, hall.stateAt(3, 2, 2));
    }

    private static void wrongNumbers() {
        Handshakewarden hall = Check.hallOf("a>b{0:end}");
        hall.part(0, 0, 0);
        for (int wrong : new int[] {-1, 8, 1000}) {
            Check.dueIllegalArgument("roleOf", () -> hall.roleOf(wrong));
            Check.dueIllegalArgument("states", () -> hall.states(wrong));
            Check.dueIllegalArgument("stateAt", () -> hall.stateAt(wrong, 9, 0));
            Check.dueIllegalArgument("step", () -> hall.step(wrong, 9, 0));
            Check.dueIllegalArgument("isBelow", () -> hall.isBelow(wrong, 0));
            Check.dueIllegalArgument("isBelow", () -> hall.isBelow(0, wrong));
            Check.dueIllegalArgument("shows", () -> hall.shows(wrong, 0));
            Check.dueIllegalArgument("shows", () -> hall.shows(0, wrong));
            Check.dueIllegalArgument("showsAt", () -> hall.showsAt(wrong, 0, 0));
            Check.dueIllegalArgument("showsAt", () -> hall.showsAt(0, wrong, 0));
            Check.dueIllegalArgument("fit", () -> hall.fit(wrong, 0));
            Check.dueIllegalArgument("fit", () -> hall.fit(0, wrong));
        }
        Check.dueIllegalArgument("stateAt what", () -> hall.stateAt(0, 9, 3));
        Check.dueIllegalArgument("stateAt what", () -> hall.stateAt(0, 9, -1));
        Check.dueIllegalArgument("step kind", () -> hall.step(0, 9, 10));
        Check.dueIllegalArgument("step kind", () -> hall.step(0, 9, -1));
        for (int wrong : new int[] {-1, 2, Integer.MIN_VALUE}) {
            Check.dueOutOfBounds("stateAt state", () -> hall.stateAt(0, wrong, 0));
            Check.dueOutOfBounds("step state", () -> hall.step(0, wrong, 0));
        }
    }

    private static void holds(Handshakewarden hall, int one, int other, String due) {
        StringBuilder row = new StringBuilder();
        int length = hall.shows(one, other);
        for (int place = 0; place < length; place++) {
            row.append(hall.showsAt(one, other, place));
        }
        Check.due("row of " + one + ", " + other, due, length == NONE ? "below" : row.toString());
        Check.due("below " + one + ", " + other, due.equals("below"), hall.isBelow(one, other));
        Check.dueOutOfBounds("behind the row", () -> hall.showsAt(one, other, Math.max(length, 0)));
        Check.dueOutOfBounds("ahead of the row", () -> hall.showsAt(one, other, -1));
    }

    private static void belowBySending() {
        Handshakewarden hall = two(0, "loop x a>b{0:x,1:end}", "loop x a>b{0:x,1:end,2:end}");
        holds(hall, 0, 1, "below");
        holds(hall, 1, 0, "");
        holds(hall, 0, 0, "below");
        hall = two(0, "a>b{3:a>b{0:end}}", "a>b{3:a>b{1:end},4:end}");
        holds(hall, 0, 1, "3");
        holds(hall, 1, 0, "");
        hall = two(0, "a>b{3:end,4:end}", "a>b{3:end,4:a>b{0:end}}");
        holds(hall, 0, 1, "4");
        holds(hall, 1, 0, "4");
    }

    private static void belowByHearing() {
        Handshakewarden hall = two(1, "loop x a>b{0:x,1:end}", "loop x a>b{0:x,1:end,2:end}");
        holds(hall, 1, 0, "below");
        holds(hall, 0, 1, "");
        hall = two(1, "a>b{0:a>b{1:end},2:a>b{7:end}}", "a>b{0:a>b{1:end},2:a>b{7:end,8:end}}");
        holds(hall, 1, 0, "below");
        holds(hall, 0, 1, "2");
        // A kind that only the one knows is not looked at behind it.
        hall = two(1, "a>b{0:b>a{1:end},2:end}", "a>b{2:end}");
        holds(hall, 0, 1, "below");
    }

    private static void belowOthers() {
        Handshakewarden hall = two(0, "a>b{0:end}", "a>c{0:end}");
        holds(hall, 0, 1, "");
        hall = two(0, "a>b{0:end}", "b>a{0:end}");
        holds(hall, 0, 1, "");
        hall = two(0, "a>b{0:end}", "end");
        holds(hall, 0, 1, "");
        holds(hall, 1, 0, "");
        holds(hall, 1, 1, "below");
        hall = two(1, "a>b{0:end}", "c>b{0:end}");
        holds(hall, 0, 1, "");
        hall = two(0, "loop x a>b{0:x}", "loop x a>b{0:a>b{0:a>b{0:x}}}");
        holds(hall, 0, 1, "below");
        holds(hall, 1, 0, "below");
        hall = two(0, "loop x a>b{0:x}", "a>b{0:a>b{0:a>b{0:end}}}");
        holds(hall, 0, 1, "000");
    }

    private static void rowsAreShortestAndFirst() {
        // 1 leads there with one letter more than 2 does.
        Handshakewarden hall = two(0, "a>b{1:a>b{5:a>b{0:end}},2:a>b{6:end}}",
                "a>b{1:a>b{5:a>b{1:end}},2:a>b{7:end}}");
        holds(hall, 0, 1, "2");
        // Both lead there with two letters: 19 comes ahead of 20.
        hall = two(0, "a>b{2:a>b{0:end},1:a>b{3:end,9:a>b{0:end}}}",
                "a>b{2:a>b{0:a>b{0:end}},1:a>b{3:end,9:end}}");
        holds(hall, 0, 1, "19");
        // Around a loop once, as only then the second part stands elsewhere.
        hall = two(1, "loop x a>b{4:x}", "a>b{4:a>b{4:a>b{4:a>b{4:a>b{4:a>b{4:end}}}}}}");
        holds(hall, 0, 1, "444444");
        holds(hall, 1, 0, "444444");
    }

    private static void unlikeRoles() {
        Handshakewarden hall = Check.hallOf("a>b{0:end}");
        hall.part(0, 0, 0);
        hall.part(0, 1, 1);
        hall.part(0, 2, 2);
        hall.part(0, 3, 3);
        Check.due("unlike roles are not below", false, hall.isBelow(0, 1));
        Check.due("unlike roles show nothing", NONE, hall.shows(0, 1));
        Check.dueOutOfBounds("unlike roles have no row", () -> hall.showsAt(0, 1, 0));
        Check.due("END of unlike roles", false, hall.isBelow(2, 3));
        Check.due("END of unlike roles", NONE, hall.shows(2, 3));
        Check.due("END below END", true, hall.isBelow(4, 5));
        Check.due("END shows nothing", NONE, hall.shows(4, 5));
    }

    private static void fits(String one, int role, String other, int otherRole, boolean due) {
        Handshakewarden hall = Check.hallOf(one, other);
        hall.part(0, role, 0);
        hall.part(1, otherRole, 1);
        Check.due(role + " of " + one + " and " + otherRole + " of " + other, due, hall.fit(0, 1));
    }

    private static void fit() {
        String two = "loop x a>b{0:b>a{1:x,2:end},3:b>a{4:end}}";
        fits(two, 0, two, 1, true);
        fits(two, 1, two, 0, true);
        fits(two, 0, two, 0, false);
        fits("end", 0, "end", 1, false);
        fits("a>b{0:end}", 0, "end", 1, false);
        fits("a>b{0:end}", 0, "a>b{0:end,1:end}", 1, true);
        fits("a>b{0:end,1:end}", 0, "a>b{0:end}", 1, false);
        fits("a>b{0:end}", 1, "a>b{0:end,1:end}", 0, false);
        fits("a>b{0:end,1:end}", 1, "a>b{0:end}", 0, true);
        fits("a>b{0:end}", 0, "c>b{0:end}", 1, false);
        fits("a>c{0:end}", 0, "a>b{0:end}", 1, false);
        fits("a>b{0:end}", 0, "b>a{0:end}", 1, false);
        fits("a>b{0:a>c{0:end}}", 0, "a>b{0:end}", 1, false);
        fits("a>b{0:end}", 0, "a>b{0:b>c{0:end}}", 1, false);
        // What the other one does not know is not looked at, but its roles are.
        fits("b>a{0:end,1:a>c{0:end}}", 0, "b>a{0:end}", 1, false);
        fits("a>b{0:end}", 0, "a>b{0:end,1:b>c{0:end}}", 1, false);
        fits("a>b{0:end}", 0, "a>b{0:end,1:b>a{0:end}}", 1, true);
    }
}
