/** Each sentence on cutting that names a boundary case: promises 12 to 14. */
public final class EdgeCutTest {
    private static final int NONE = Handshakewarden.NONE;
    private static final int[] END = {0, NONE, 0};

    public static void main(String[] args) {
        wholes0To3();
        what0To2();
        rolesAndSlots();
        fromNoRoleToAll();
        firstStateHasPlace0();
        replacedByAllItsNextPlaces();
        eachPlaceOnce();
        besideByTheSideOfTheRole();
        countsAsEndWithoutEndOrLetter();
        endThatCanBeComeToIsNoSuchPlace();
        besideWithoutTheRole();
        allThatIsEndIsOnePlace();
        leastNumberOfAllThatIsEnd();
        sendToOneReceiver();
        sendWithTheSameKinds();
        sendGoesOnWithAllNextPlaces();
        hearFromOneSender();
        hearWithAllKinds();
        hearGoesOnWithThoseThatHaveIt();
        endAndLetterNeverGoTogether();
        sameSetIsOneState();
        statesAreNumbered();
        leastRoleIsShown();
        firstStateIsShown();
        firstPairIsShown();
        roleThatDoesNotStand();
        partThatCannotBe();
        manyPlaces();
        Check.end("EdgeCutTest");
    }

    private static void state(Handshakewarden hall, int slot, int state, int... due) {
        for (int what = 0; what < 3; what++) {
            Check.due("slot " + slot + ", state " + state + ", what " + what, due[what],
                    hall.stateAt(slot, state, what));
        }
    }

    private static void why(Handshakewarden hall, int whole, int role, int first, int second) {
        Check.due("cut", role == NONE ? Integer.bitCount(hall.roles(whole)) : NONE, hall.cut(whole));
        Check.due("role", role, hall.why(whole, 0));
        Check.due("first place", first, hall.why(whole, 1));
        Check.due("second place", second, hall.why(whole, 2));
    }

    private static void clash(String text, int role, int first, int second) {
        why(Check.hallOf(text), 0, role, first, second);
    }

    private static void fine(String text) {
        why(Check.hallOf("end", "end", "end", text), 3, NONE, NONE, NONE);
    }

    private static void wholes0To3() {
        Handshakewarden hall = Check.hallOf("end", "a>b{0:end}", "a>b{0:end,1:b>c{0:end}}", "a>b{0:b>c{0:end}}");
        int[] cuts = {0, 2, NONE, 3};
        for (int whole = 0; whole < 4; whole++) {
            Check.due("cut(" + whole + ")", cuts[whole], hall.cut(whole));
            Check.due("why(" + whole + ")", whole == 2 ? 2 : NONE, hall.why(whole, 0));
        }
        for (int wrong : new int[] {-1, 4, Integer.MIN_VALUE, Integer.MAX_VALUE}) {
            Check.dueIllegalArgument("cut", () -> hall.cut(wrong));
            Check.dueIllegalArgument("why", () -> hall.why(wrong, 0));
            Check.dueIllegalArgument("part", () -> hall.part(wrong, 0, 0));
        }
    }

    /** "what: 0 the role, 1 the first place, 2 the second place"; "NONE if it can be cut". */
    private static void what0To2() {
        Handshakewarden hall = Check.hallOf("a>b{0:end,1:b>c{0:end}}");
        why(hall, 0, 2, 1, 2);
        why(hall, 1, NONE, NONE, NONE);
        for (int wrong : new int[] {-1, 3, Integer.MIN_VALUE, Integer.MAX_VALUE}) {
            Check.dueIllegalArgument("what " + wrong, () -> hall.why(0, wrong));
            Check.dueIllegalArgument("what " + wrong + " of one that can be cut", () -> hall.why(1, wrong));
        }
    }

    /** "role: 0 to 5", "slot: 0 to 7". */
    private static void rolesAndSlots() {
        Handshakewarden hall = Check.hallOf("a>b{0:b>c{0:c>d{0:d>e{0:e>f{0:end}}}}}");
        for (int role = 0; role < 6; role++) {
            Check.due("part of " + role, role % 5 == 0 ? 2 : 3, hall.part(0, role, role));
            Check.due("role of the slot", role, hall.roleOf(role));
        }
        for (int slot = 0; slot < 8; slot++) {
            Check.due("into slot " + slot, 2, hall.part(0, 5, slot));
            Check.due("its role", 5, hall.roleOf(slot));
        }
        for (int wrong : new int[] {-1, Integer.MIN_VALUE, Integer.MAX_VALUE}) {
            Check.dueIllegalArgument("role " + wrong, () -> hall.part(0, wrong, 0));
            Check.dueIllegalArgument("slot " + wrong, () -> hall.part(0, 0, wrong));
        }
        Check.dueIllegalArgument("role 6", () -> hall.part(0, 6, 0));
        Check.dueIllegalArgument("slot 8", () -> hall.part(0, 0, 8));
        Check.due("refused ones put nothing", 5, hall.roleOf(0));
    }

    /** "how many of the roles that stand in it; NONE if it cannot be cut". */
    private static void fromNoRoleToAll() {
        Handshakewarden hall = new Handshakewarden();
        String[] texts = {"end", "(end|end)", "a>b{0:end}", "a>b{0:a>c{0:end}}", "(a>b{0:end}|c>d{0:end})",
            "(a>b{0:a>c{0:end}}|d>e{0:end})", "(a>b{0:end}|(c>d{0:end}|e>f{0:end}))"};
        int[] due = {0, 0, 2, 3, 4, 5, 6};
        for (int i = 0; i < texts.length; i++) {
            Check.read(hall, 0, texts[i]);
            why(hall, 0, NONE, NONE, NONE);
            Check.due("cut of " + texts[i], due[i], hall.cut(0));
        }
    }

    /** "a state is a set of places, the first one has the place 0". */
    private static void firstStateHasPlace0() {
        Handshakewarden hall = Check.hallOf("a>b{3:b>a{4:end}}");
        hall.part(0, 0, 0);
        state(hall, 0, 0, 1, 1, 8);
        hall.part(0, 1, 1);
        state(hall, 1, 0, 2, 0, 8);
    }

    /** "a LETTER of which the role is neither sender nor receiver is replaced by all its next places". */
    private static void replacedByAllItsNextPlaces() {
        Handshakewarden hall = Check.hallOf("a>b{0:a>c{1:end},5:b>a{0:a>c{2:end},1:a>c{3:end}},9:a>c{4:end}}");
        Check.due("c", 2, hall.part(0, 2, 0));
        state(hall, 0, 0, 2, 0, 2 + 4 + 8 + 16);
        Check.due("cut", 3, hall.cut(0));
    }

    /** "(each place once, so that loops end)". */
    private static void eachPlaceOnce() {
        fine("loop x a>b{0:x,1:b>c{0:end}}");
        fine("loop x a>b{0:loop y b>a{0:y,1:x,2:b>c{0:end}},1:x}");
        Handshakewarden hall = Check.hallOf("loop x loop y a>b{0:x,1:y,2:a>c{7:x}}");
        Check.due("c is there again at once", 1, hall.part(0, 2, 0));
        state(hall, 0, 0, 2, 0, 128);
        Check.due("by the loop", 0, hall.step(0, 0, 7));
    }

    /** "and BESIDE by its left or its right place, in which the role stands". */
    private static void besideByTheSideOfTheRole() {
        Handshakewarden hall = Check.hallOf("(a>b{1:end}|(c>d{2:end}|e>f{3:end}))",
                "a>b{0:(c>d{0:d>c{1:end}}|b>a{2:end})}");
        int[] kinds = {2, 2, 4, 4, 8, 8};
        for (int role = 0; role < 6; role++) {
            Check.due("role " + role, 2, hall.part(0, role, 0));
            state(hall, 0, 0, role % 2 == 0 ? 1 : 2, role ^ 1, kinds[role]);
        }
        Check.due("a goes on at the right", 3, hall.part(1, 0, 1));
        state(hall, 1, 1, 2, 1, 4);
        Check.due("c begins at the left", 3, hall.part(1, 2, 2));
        state(hall, 2, 0, 1, 3, 1);
        Check.due("it stands where it comes behind other places", 2,
                Check.hallOf("(a>b{0:b>a{0:a>c{5:end}}}|end)").part(0, 2, 0));
    }

    /** "A place from which neither END nor a LETTER of the role can be come to counts as END". */
    private static void countsAsEndWithoutEndOrLetter() {
        Handshakewarden hall = Check.hallOf("a>c{0:loop x a>b{0:x}}", "a>c{0:loop x a>b{0:loop y a>b{0:y,1:x}}}");
        Check.due("c behind its letter", 2, hall.part(0, 2, 0));
        state(hall, 0, 1, END);
        Check.due("c ahead of loops in loops", 2, hall.part(1, 2, 0));
        state(hall, 0, 1, END);
        clash("a>b{0:loop x a>b{0:x},1:b>c{0:end}}", 2, 1, 2);
        // As a LETTER of the role can be come to, it does not count as END.
        fine("a>b{0:loop x a>b{0:x,1:b>c{0:end}},1:b>c{0:end}}");
        // Nor is the role's own LETTER END, though END cannot be come to from it.
        fine("a>b{0:loop x b>c{0:x},1:loop y b>c{1:y}}");
    }

    /** A LETTER from which END can be come to is replaced; END has a number of its own then. */
    private static void endThatCanBeComeToIsNoSuchPlace() {
        clash("a>b{0:loop x a>b{0:x,1:end},1:b>c{0:end}}", 2, 2, 3);
        clash("a>b{0:a>b{0:a>b{0:end}},1:b>c{0:end}}", 2, 2, 4);
        clash("a>b{0:a>b{0:loop x a>b{0:x}},1:b>c{0:end}}", 2, 1, 2);
    }

    /** "so does a BESIDE in which the role does not stand". */
    private static void besideWithoutTheRole() {
        clash("a>b{0:(end|end),1:b>c{0:end}}", 2, 1, 2);
        clash("a>b{0:(a>b{0:end}|end),1:b>c{0:end}}", 2, 1, 2);
        clash("a>b{0:b>c{0:end},1:(end|end)}", 2, 1, 2);
        fine("a>b{0:(b>c{0:end}|end),1:b>c{0:end}}");
        fine("a>b{0:(end|b>c{0:end}),1:b>c{0:end}}");
        Handshakewarden hall = Check.hallOf("a>c{0:(a>b{0:end}|end),1:end}");
        Check.due("c", 2, hall.part(0, 2, 0));
        Check.due("BESIDE is END", 1, hall.step(0, 0, 0));
        Check.due("as END is", 1, hall.step(0, 0, 1));
    }

    /** "END and all of these are one place here". */
    private static void allThatIsEndIsOnePlace() {
        Handshakewarden hall = Check.hallOf("c>a{0:a>b{0:loop x a>b{0:x},1:end,2:(end|end)}}");
        Check.due("c sends, then END", 2, hall.part(0, 2, 0));
        state(hall, 0, 1, END);
        Handshakewarden other = Check.hallOf("c>a{0:loop x a>b{0:x},1:end,2:(end|end),3:loop y a>b{1:y}}");
        Check.due("one state of four", 2, other.part(0, 2, 0));
        for (int kind = 0; kind < 4; kind++) {
            Check.due("kind " + kind, 1, other.step(0, 0, kind));
        }
    }

    /** "with the least number that one of them has in the whole". */
    private static void leastNumberOfAllThatIsEnd() {
        clash("a>b{0:loop x a>b{0:x},1:b>c{0:end},2:end}", 2, 1, 2);
        clash("a>b{0:b>c{0:end},1:end,2:loop x a>b{0:x}}", 2, 1, 2);
        clash("a>b{0:b>c{0:end},2:loop x a>b{0:x}}", 2, 1, 2);
        // Place 2 is met; what has the least number, place 1, is not.
        clash("c>a{0:loop x a>b{0:x},1:a>b{2:b>c{0:end},3:end}}", 2, 1, 3);
    }

    /** "If all are LETTERs of which it is the sender, to one receiver". */
    private static void sendToOneReceiver() {
        fine("a>b{0:c>d{0:end},1:c>d{0:end}}");
        clash("a>b{0:c>d{0:end},1:c>a{0:end}}", 2, 1, 2);
        clash("a>b{0:c>a{0:end},1:c>b{0:end}}", 2, 1, 2);
    }

    /** "and with the same kinds". */
    private static void sendWithTheSameKinds() {
        fine("a>b{0:c>d{0:end,9:end},1:c>d{9:end,0:end}}");
        clash("a>b{0:c>d{0:end},1:c>d{1:end}}", 2, 1, 2);
        clash("a>b{0:c>d{0:end},1:c>d{0:end,1:end}}", 2, 1, 2);
        clash("a>b{0:c>d{0:end,9:end},1:c>d{0:end}}", 2, 1, 2);
    }

    /** "the next state for a kind has the next places of all of them for it". */
    private static void sendGoesOnWithAllNextPlaces() {
        Handshakewarden hall = Check.hallOf("a>b{0:c>d{0:a>c{3:end},1:end},1:c>d{0:a>c{4:end},1:end}}");
        Check.due("c", 3, hall.part(0, 2, 0));
        state(hall, 0, 0, 1, 3, 3);
        Check.due("kind 0", 1, hall.step(0, 0, 0));
        state(hall, 0, 1, 2, 0, 8 + 16);
        Check.due("kind 1", 2, hall.step(0, 0, 1));
        state(hall, 0, 2, END);
    }

    /** "If all are LETTERs that it hears from one sender, it is HEAR". */
    private static void hearFromOneSender() {
        fine("a>b{0:b>c{0:end},1:b>c{1:end}}");
        clash("a>b{0:a>c{0:end},1:b>c{0:end}}", 2, 1, 2);
        clash("a>b{0:b>c{0:end},1:c>b{0:end}}", 2, 1, 2);
        clash("a>b{0:c>b{0:end},1:b>c{0:end}}", 2, 1, 2);
    }

    /** "with all kinds of them". */
    private static void hearWithAllKinds() {
        Handshakewarden hall = Check.hallOf("a>b{0:b>c{0:end},1:b>c{0:end,4:end},2:b>c{9:end}}");
        Check.due("c", 2, hall.part(0, 2, 0));
        state(hall, 0, 0, 2, 1, 1 + 16 + 512);
    }

    /** "the next state for a kind has the next places of those that have it". */
    private static void hearGoesOnWithThoseThatHaveIt() {
        Handshakewarden hall = Check.hallOf("a>b{0:b>c{0:b>c{5:end},1:end},1:b>c{0:b>c{6:end},2:b>c{7:end}}}");
        Check.due("c", 4, hall.part(0, 2, 0));
        state(hall, 0, 0, 2, 1, 7);
        Check.due("of both", 1, hall.step(0, 0, 0));
        state(hall, 0, 1, 2, 1, 32 + 64);
        Check.due("of the one", 2, hall.step(0, 0, 1));
        state(hall, 0, 2, END);
        Check.due("of the other", 3, hall.step(0, 0, 2));
        state(hall, 0, 3, 2, 1, 128);
    }

    /** "END and a LETTER never go together". */
    private static void endAndLetterNeverGoTogether() {
        clash("a>b{0:end,1:b>c{0:end}}", 2, 1, 2);
        clash("a>b{0:b>c{0:end},1:end}", 2, 1, 2);
        clash("a>b{0:end,1:c>b{0:end}}", 2, 1, 2);
        clash("a>b{0:c>b{0:end},1:end}", 2, 1, 2);
        // A LETTER counts as END here, and has the sender of the other one.
        clash("a>b{0:loop x b>a{0:x},1:b>c{0:end}}", 2, 1, 2);
    }

    /** "Two states with the same set of places (ahead of the replacing, or behind it) are one". */
    private static void sameSetIsOneState() {
        Handshakewarden hall = Check.hallOf("loop x a>b{0:c>d{0:x},1:x}", "a>b{0:b>a{0:end},1:b>a{0:end}}",
                "a>b{0:b>a{0:end},1:b>a{0:a>b{0:end}}}");
        Check.due("behind the replacing", 1, hall.part(0, 0, 0));
        Check.due("kind 0", 0, hall.step(0, 0, 0));
        Check.due("kind 1", 0, hall.step(0, 0, 1));
        Check.due("other places are other states", 4, hall.part(1, 0, 0));
        Check.due("1", 1, hall.step(0, 0, 0));
        Check.due("2", 2, hall.step(0, 0, 1));
        Check.due("END is one", 3, hall.step(0, 1, 0));
        Check.due("END is one", 3, hall.step(0, 2, 0));
        Check.due("END is one, wherever it comes", 5, hall.part(2, 0, 0));
    }

    /** "from the first one, 0, by their numbers and ascending kinds". */
    private static void statesAreNumbered() {
        Handshakewarden hall = Check.hallOf("a>b{9:b>a{0:end},0:b>a{1:b>a{2:end}},5:end}");
        Check.due("a", 5, hall.part(0, 0, 0));
        Check.due("0 comes first", 1, hall.step(0, 0, 0));
        Check.due("then 5", 2, hall.step(0, 0, 5));
        Check.due("then 9", 3, hall.step(0, 0, 9));
        Check.due("then what is behind 1", 4, hall.step(0, 1, 1));
        Check.due("END had its number", 2, hall.step(0, 4, 2));
        state(hall, 0, 2, END);
        // c's states are not in the order of the places: the first one has the places 1 and 4.
        Check.read(hall, 1, "a>b{0:b>c{1:end},1:a>b{0:b>c{0:b>c{0:end}}}}");
        hall.part(1, 2, 1);
        Check.due("kind 0, from a later place", 1, hall.step(1, 0, 0));
        Check.due("kind 1, from an earlier place", 2, hall.step(1, 0, 1));
    }

    /** "the least role for which it cannot be". */
    private static void leastRoleIsShown() {
        clash("a>b{0:c>d{0:end},1:d>c{0:end}}", 2, 1, 2);
        clash("e>f{0:c>d{0:end},1:d>c{0:end}}", 2, 1, 2);
        clash("a>b{0:a>c{0:c>f{0:end}},1:a>c{1:end}}", 5, 3, 4);
        clash("f>e{0:a>f{0:end},1:f>a{0:end}}", 0, 1, 2);
    }

    /** "of its first state (by numbers) that is none of these". */
    private static void firstStateIsShown() {
        // Of d, state 1 has the places 6 and 7, state 2 the places 4 and 5.
        clash("a>d{0:a>b{5:a>b{0:b>d{0:end},1:a>d{0:end}}},1:a>b{2:b>d{0:end},3:d>b{0:end}}}", 3, 6, 7);
        // The same by other kinds: state 1 has the places with the lower numbers.
        clash("a>d{1:a>b{5:a>b{0:b>d{0:end},1:a>d{0:end}}},0:a>b{2:b>d{0:end},3:d>b{0:end}}}", 3, 3, 4);
    }

    /** "the least place and the least other place that do not go together with it". */
    private static void firstPairIsShown() {
        clash("a>b{0:b>c{0:end},1:b>c{1:end},2:c>b{0:end},3:c>a{0:end}}", 2, 1, 3);
        clash("a>b{0:b>c{0:end},1:c>b{0:end},2:b>c{1:end}}", 2, 1, 2);
        clash("a>b{0:b>c{0:end},1:b>c{1:end},2:b>c{2:end},3:end}", 2, 1, 4);
        clash("a>b{0:end,1:b>c{1:end},2:c>b{2:end}}", 2, 1, 2);
    }

    /** "(1, just END, of a role that does not stand in it)". */
    private static void roleThatDoesNotStand() {
        Handshakewarden hall = Check.hallOf("a>b{0:end,1:b>c{0:end}}");
        Check.due("d of what cannot be cut", 1, hall.part(0, 3, 7));
        Check.due("its role", 3, hall.roleOf(7));
        state(hall, 7, 0, END);
        Check.due("f of end", 1, hall.part(1, 5, 7));
        Check.due("its role", 5, hall.roleOf(7));
        state(hall, 7, 0, END);
    }

    /** "IllegalStateException if the whole cannot be cut for this role". */
    private static void partThatCannotBe() {
        Handshakewarden hall = Check.hallOf("a>b{0:end,1:b>c{0:end}}", "a>b{0:end}");
        hall.part(1, 1, 6);
        Check.dueIllegalState("c", () -> hall.part(0, 2, 6));
        Check.dueIllegalArgument("c into slot 8", () -> hall.part(0, 2, 8));
        Check.dueIllegalArgument("c into slot -1", () -> hall.part(0, 2, -1));
        Check.due("the slot stays", 1, hall.roleOf(6));
        Check.due("the slot stays", 2, hall.states(6));
        Check.due("a can be cut", 2, hall.part(0, 0, 6));
        Check.due("b can be cut", 3, hall.part(0, 1, 6));
        Check.due("though it cannot be cut for all", NONE, hall.cut(0));
    }

    /** A place beyond 32 is told apart as the others are. */
    private static void manyPlaces() {
        String three = "((end|end)|(end|end))";
        String seven = "(" + three + "|" + three + ")";
        String fill = "((" + seven + "|" + seven + ")|" + seven + ")";
        String deep = "(end|".repeat(9) + "a>b{1:b>c{0:end}}" + ")".repeat(9);
        Handshakewarden hall = Check.hallOf("a>b{0:" + fill + ",1:" + deep + "}");
        Check.due("places", 36, hall.places(0));
        Check.due("the last one", 1, hall.placeAt(0, 35, 1));
        why(hall, 0, 2, 1, 35);
    }
}
