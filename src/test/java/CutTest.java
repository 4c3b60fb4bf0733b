/** Promises 12 to 14: cut, why, part. */
public final class CutTest {
    private static final int NONE = Handshakewarden.NONE;

    public static void main(String[] args) {
        cut();
        whyOfLetters();
        whyOfEnds();
        whyOfBeside();
        whyOfLaterStates();
        partOfAUnion();
        partOfLoopsWithoutTheRole();
        partOfBeside();
        partStatesAreSets();
        wrongNumbers();
        partOfManyPlaces();
        partThatCannotBe();
        Check.end("CutTest");
    }

    private static void cuts(String text, int roles) {
        Handshakewarden hall = Check.hallOf("end", "end", text);
        Check.due("cut of " + text, roles, hall.cut(2));
        for (int what = 0; what < 3; what++) {
            Check.due("why not " + text, NONE, hall.why(2, what));
        }
    }

    private static void clash(String text, int role, int first, int second) {
        Handshakewarden hall = Check.hallOf("end", text);
        Check.due("role of " + text, role, hall.why(1, 0));
        Check.due("cut of " + text, NONE, hall.cut(1));
        Check.due("first place of " + text, first, hall.why(1, 1));
        Check.due("second place of " + text, second, hall.why(1, 2));
    }

    private static void cut() {
        cuts("end", 0);
        cuts("(end|end)", 0);
        cuts("loop x a>b{0:x}", 2);
        cuts("loop x a>b{0:b>c{1:x},2:b>c{3:end}}", 3);
        cuts("a>b{0:a>c{0:b>c{1:end}},1:a>c{1:c>b{2:end}}}", 3);
        cuts("(a>b{0:end}|loop y c>d{1:y,2:d>c{3:end}})", 4);
        cuts("loop x a>b{0:b>a{1:x,2:end},3:b>a{4:end}}", 2);
        cuts("a>b{0:b>c{0:c>d{0:d>e{0:e>f{0:end}}}}}", 6);
        cuts("a>b{0:c>d{0:end},1:c>d{0:end}}", 4);
        cuts("a>b{0:b>c{0:end},1:b>c{0:end}}", 3);
    }

    private static void whyOfLetters() {
        clash("a>b{0:b>c{1:end},1:c>b{2:end}}", 2, 1, 2);
        clash("a>b{0:c>d{0:end},1:c>d{1:end}}", 2, 1, 2);
        clash("a>b{0:c>d{0:end},1:c>d{0:end,1:end}}", 2, 1, 2);
        clash("a>b{0:c>d{0:end},1:c>a{0:end}}", 2, 1, 2);
        clash("a>b{0:a>c{0:end},1:b>c{1:end}}", 2, 1, 2);
        clash("b>c{0:a>b{0:end},1:b>c{0:end}}", 0, 1, 3);
        // What stands for END may be a LETTER of the same sender; they do not go together.
        clash("a>b{0:loop x b>a{0:x},1:b>c{0:end}}", 2, 1, 2);
    }

    private static void whyOfEnds() {
        clash("a>b{0:b>c{1:end},1:end}", 2, 1, 2);
        clash("a>b{0:end,1:b>c{1:end}}", 2, 1, 2);
        clash("a>b{0:b>c{1:end},1:end,2:b>c{2:end}}", 2, 1, 2);
        clash("a>b{0:loop x a>b{0:x},1:b>c{0:end}}", 2, 1, 2);
        clash("a>b{0:b>c{0:end},1:loop x a>b{0:x}}", 2, 1, 2);
        // From the loop END can be come to, so it is replaced by END, which is place 3.
        clash("a>b{0:b>c{0:end},1:loop x a>b{0:x,1:end}}", 2, 1, 3);
        // The loop has the least number of all that counts as END, though END itself is met.
        clash("a>b{0:loop x a>b{0:x},1:b>c{0:end},2:end}", 2, 1, 2);
        // From place 1 only the loop can be come to, so it counts as END itself.
        clash("b>c{0:c>b{0:loop x b>c{0:x}},1:c>b{1:end},2:c>b{2:b>a{0:end}}}", 0, 1, 6);
    }

    private static void whyOfBeside() {
        // The role e does not stand in BESIDE, so that counts as END, by its own number.
        clash("a>b{0:(a>b{0:end}|end),1:b>e{0:end}}", 4, 1, 2);
        // c stands in it on the right side, which comes in its place.
        clash("a>b{0:(a>b{0:end}|c>d{0:end}),1:b>e{0:end}}", 2, 4, 5);
    }

    private static void whyOfLaterStates() {
        // State 0 of d is right; of its next ones, the one for kind 0 comes first.
        clash("a>d{0:a>b{0:b>d{0:end},1:a>d{0:end}},1:a>b{2:b>d{0:end},3:d>b{0:end}}}", 3, 3, 4);
        // Of three places the least one goes together with the second, not with the third.
        clash("a>b{0:b>c{0:end},1:b>c{1:end},2:c>b{0:end}}", 2, 1, 3);
        // The least role that cannot be cut is told, although more cannot be.
        clash("a>b{0:c>d{0:d>e{0:end}},1:c>d{1:e>d{0:end}}}", 2, 1, 2);
    }

    private static void state(Handshakewarden hall, int slot, int state, int sort, int other, int kinds) {
        String name = "slot " + slot + ", state " + state;
        Check.due("sort of " + name, sort, hall.stateAt(slot, state, 0));
        Check.due("other of " + name, other, hall.stateAt(slot, state, 1));
        Check.due("kinds of " + name, kinds, hall.stateAt(slot, state, 2));
    }

    private static void partOfAUnion() {
        Handshakewarden hall = new Handshakewarden();
        hall.example(0);
        hall.read(3);
        Check.due("a", 2, hall.part(3, 0, 7));
        state(hall, 7, 0, 1, 1, 5);
        state(hall, 7, 1, 0, NONE, 0);
        Check.due("a: 0", 0, hall.step(7, 0, 0));
        Check.due("a: 2", 1, hall.step(7, 0, 2));
        Check.due("b", 4, hall.part(3, 1, 0));
        state(hall, 0, 0, 2, 0, 5);
        state(hall, 0, 1, 1, 2, 2);
        state(hall, 0, 2, 1, 2, 8);
        state(hall, 0, 3, 0, NONE, 0);
        Check.due("c", 2, hall.part(3, 2, 1));
        state(hall, 1, 0, 2, 1, 10);
        Check.due("c: 1", 0, hall.step(1, 0, 1));
        Check.due("c: 3", 1, hall.step(1, 0, 3));
        Check.due("a role that does not stand in it", 1, hall.part(3, 5, 0));
        Check.due("its role", 5, hall.roleOf(0));
        state(hall, 0, 0, 0, NONE, 0);
    }

    private static void partOfLoopsWithoutTheRole() {
        Handshakewarden hall = Check.hallOf("a>c{0:loop x a>b{0:x},1:end}",
                "loop x a>b{0:loop y a>b{0:y,1:x,2:b>c{0:end}}}");
        Check.due("c of a loop without it", 2, hall.part(0, 2, 0));
        state(hall, 0, 0, 2, 0, 3);
        Check.due("the loop is END", 1, hall.step(0, 0, 0));
        Check.due("END is the same one", 1, hall.step(0, 0, 1));
        Check.due("c behind loops", 2, hall.part(1, 2, 1));
        state(hall, 1, 0, 2, 1, 1);
        Check.due("a sends around", 3, hall.part(1, 0, 2));
        Check.due("back to the first state", 0, hall.step(2, 1, 1));
        Check.due("back to its own state", 1, hall.step(2, 1, 0));
        Check.due("b hears around", 4, hall.part(1, 1, 3));
    }

    private static void partOfBeside() {
        Handshakewarden hall = Check.hallOf(
                "a>b{0:a>c{1:(a>b{2:end}|c>d{3:end})},4:a>c{5:end}}");
        Check.due("cut", NONE, hall.cut(0));
        Check.due("a", 5, hall.part(0, 0, 0));
        state(hall, 0, 1, 1, 2, 2);
        state(hall, 0, 2, 1, 2, 32);
        Check.due("the left side comes in", 3, hall.step(0, 1, 1));
        state(hall, 0, 3, 1, 1, 4);
        Check.due("END is come to first from state 2", 4, hall.step(0, 2, 5));
        Check.due("END behind the left side", 4, hall.step(0, 3, 2));
        Check.due("c", 3, hall.part(0, 2, 1));
        state(hall, 1, 0, 2, 0, 34);
        state(hall, 1, 1, 1, 3, 8);
        Check.due("d may hear or not", 3, hall.why(0, 0));
    }

    private static void partStatesAreSets() {
        // Both letters lead to the same set of places behind the replacing: one state.
        Handshakewarden hall = Check.hallOf(
                "a>b{0:c>d{0:a>b{1:end}},1:a>b{1:end}}", "loop x a>b{0:a>b{0:x}}");
        Check.due("a keeps places apart", 4, hall.part(0, 0, 0));
        Check.due("b", 4, hall.part(0, 1, 1));
        Check.due("unrolled loops have as many states as places", 2, hall.part(1, 0, 2));
        Check.read(hall, 2, "a>b{0:c>d{0:end},1:c>d{0:end}}");
        Check.due("c: two places are one state", 2, hall.part(2, 2, 3));
        Check.due("d: two places are one state", 2, hall.part(2, 3, 4));
        state(hall, 4, 0, 2, 2, 1);
    }

    private static void wrongNumbers() {
        Handshakewarden hall = new Handshakewarden();
        for (int wrong : new int[] {-1, 4, 100}) {
            Check.dueIllegalArgument("cut", () -> hall.cut(wrong));
            Check.dueIllegalArgument("why", () -> hall.why(wrong, 0));
            Check.dueIllegalArgument("part", () -> hall.part(wrong, 0, 0));
        }
        Check.dueIllegalArgument("why what", () -> hall.why(0, 3));
        Check.dueIllegalArgument("why what", () -> hall.why(0, -1));
        Check.dueIllegalArgument("part role", () -> hall.part(0, 6, 0));
        Check.dueIllegalArgument("part role", () -> hall.part(0, -1, 0));
        Check.dueIllegalArgument("part slot", () -> hall.part(0, 0, 8));
        Check.dueIllegalArgument("part slot", () -> hall.part(0, 0, -1));
    }

    /** Places 33 and 34 are LETTERs of a, each one alone a state of it. */
    private static void partOfManyPlaces() {
        String left = "(end|".repeat(9);
        String right = ")".repeat(9);
        Handshakewarden hall = Check.hallOf("a>b{0:(end|(end|" + left + "end" + right + ")),1:" + left
                + "a>b{0:a>b{1:end}}" + right + ",2:" + left + "a>b{2:a>b{3:end}}" + right + "}");
        Check.due("places", 35, hall.places(0));
        Check.due("the last but one", 2, hall.placeAt(0, 33, 3));
        Check.due("the last one", 8, hall.placeAt(0, 34, 3));
        Check.due("a", 6, hall.part(0, 0, 0));
        Check.due("b", 6, hall.part(0, 1, 1));
        Check.due("they fit", true, hall.fit(0, 1));
        Check.due("kinds", 2, hall.stateAt(0, hall.step(0, hall.step(0, 0, 1), 0), 2));
        Check.due("kinds", 8, hall.stateAt(0, hall.step(0, hall.step(0, 0, 2), 2), 2));
    }

    private static void partThatCannotBe() {
        Handshakewarden hall = new Handshakewarden();
        hall.example(2);
        hall.read(2);
        hall.example(4);
        hall.read(0);
        hall.part(0, 1, 5);
        Check.dueIllegalState("part c of example 2", () -> hall.part(2, 2, 5));
        Check.due("the slot stays", 1, hall.roleOf(5));
        Check.due("the slot stays", 4, hall.states(5));
        Check.dueIllegalArgument("slot ahead of what cannot be", () -> hall.part(2, 2, 8));
        Check.due("part a of it can be", 2, hall.part(2, 0, 5));
        Check.due("part b of it can be", 4, hall.part(2, 1, 5));
        Check.due("it is a", 1, hall.part(2, 3, 5));
    }
}
