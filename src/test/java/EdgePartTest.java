/** Each sentence on parts that names a boundary case: promises 15 to 23. */
public final class EdgePartTest {
    private static final int NONE = Handshakewarden.NONE;
    private static final int[] FAR = {-1, 8, Integer.MIN_VALUE, Integer.MAX_VALUE};

    public static void main(String[] args) {
        slots0To7();
        slotsOutOfRange();
        what0To2();
        statesFrom0On();
        kinds0To9();
        mirrorNeedsJustOneOther();
        mirrorChangesSendAndHear();
        mirrorIntoEachSlot();
        mirrorRefused();
        endBelowEnd();
        sendBelowSend();
        hearBelowHear();
        sortsAndRolesMustBeTheSame();
        mirrorsOfUnlikeRoles();
        nextStatesMustBeBelow();
        notShownOtherwiseIsBelow();
        rowOfNoKind();
        shortestRow();
        firstRowByKinds();
        kindsThatBothHave();
        longRows();
        placesOfTheRow();
        unlikeRoles();
        fitNeedsOneOtherRole();
        fitIsBelowTheMirror();
        endFitsNone();
        slotsAreHeldAsTheyAreNow();
        Check.end("EdgePartTest");
    }

    /** Slot 0: the part of a role of one text; slot 1: that of the same role of another one. */
    private static Handshakewarden two(int role, String one, String other) {
        Handshakewarden hall = Check.hallOf(one, other);
        hall.part(0, role, 0);
        hall.part(1, role, 1);
        return hall;
    }

    private static void row(Handshakewarden hall, int slot, int other, String due) {
        boolean below = due.equals("below");
        String name = slot + " against " + other;
        Check.due("isBelow " + name, below, hall.isBelow(slot, other));
        Check.due("shows " + name, below ? NONE : due.length(), hall.shows(slot, other));
        for (int place = 0; !below && place < due.length(); place++) {
            Check.due("showsAt " + place + " of " + name, due.charAt(place) - '0', hall.showsAt(slot, other, place));
        }
        Check.dueOutOfBounds("behind the row", () -> hall.showsAt(slot, other, below ? 0 : due.length()));
    }

    /** "There are eight slots of parts, 0 to 7, each with ... at first of the role a, just END." */
    private static void slots0To7() {
        Handshakewarden hall = Check.hallOf("a>b{0:b>c{0:end}}");
        for (int slot = 0; slot < 8; slot++) {
            Check.due("role of " + slot, 0, hall.roleOf(slot));
            Check.due("states of " + slot, 1, hall.states(slot));
            Check.due("sort of " + slot, 0, hall.stateAt(slot, 0, 0));
            Check.due("other of " + slot, NONE, hall.stateAt(slot, 0, 1));
            Check.due("kinds of " + slot, 0, hall.stateAt(slot, 0, 2));
            Check.due("step of " + slot, NONE, hall.step(slot, 0, 0));
            hall.part(0, 1, slot);
            Check.due("role of " + slot, 1, hall.roleOf(slot));
            Check.due("states of " + slot, 3, hall.states(slot));
            Check.due("next slot", slot < 7 ? 0 : 1, hall.roleOf(Math.min(slot + 1, 7)));
        }
    }

    private static void slotsOutOfRange() {
        Handshakewarden hall = new Handshakewarden();
        for (int wrong : FAR) {
            Check.dueIllegalArgument("roleOf", () -> hall.roleOf(wrong));
            Check.dueIllegalArgument("states", () -> hall.states(wrong));
            Check.dueIllegalArgument("stateAt", () -> hall.stateAt(wrong, 0, 0));
            Check.dueIllegalArgument("stateAt ahead of the state", () -> hall.stateAt(wrong, 1, 0));
            Check.dueIllegalArgument("step", () -> hall.step(wrong, 0, 0));
            Check.dueIllegalArgument("step ahead of the state", () -> hall.step(wrong, 1, 0));
            Check.dueIllegalArgument("mirror", () -> hall.mirror(wrong, 0));
            Check.dueIllegalArgument("mirror to", () -> hall.mirror(0, wrong));
            Check.dueIllegalArgument("isBelow", () -> hall.isBelow(wrong, 0));
            Check.dueIllegalArgument("isBelow other", () -> hall.isBelow(0, wrong));
            Check.dueIllegalArgument("shows", () -> hall.shows(wrong, 0));
            Check.dueIllegalArgument("shows other", () -> hall.shows(0, wrong));
            Check.dueIllegalArgument("showsAt", () -> hall.showsAt(wrong, 0, 0));
            Check.dueIllegalArgument("showsAt other", () -> hall.showsAt(0, wrong, 0));
            Check.dueIllegalArgument("showsAt ahead of the place", () -> hall.showsAt(0, wrong, -1));
            Check.dueIllegalArgument("fit", () -> hall.fit(wrong, 0));
            Check.dueIllegalArgument("fit other", () -> hall.fit(0, wrong));
        }
    }

    /** "0 its sort (0 END, 1 SEND, 2 HEAR), 1 the other role (NONE of END), 2 its kinds". */
    private static void what0To2() {
        Handshakewarden hall = Check.hallOf("f>e{0:e>f{9:end}}");
        hall.part(0, 5, 7);
        int[][] due = {{1, 4, 1}, {2, 4, 512}, {0, NONE, 0}};
        for (int state = 0; state < 3; state++) {
            for (int what = 0; what < 3; what++) {
                Check.due(state + ", " + what, due[state][what], hall.stateAt(7, state, what));
            }
        }
        for (int wrong : new int[] {-1, 3, Integer.MIN_VALUE, Integer.MAX_VALUE}) {
            Check.dueIllegalArgument("what " + wrong, () -> hall.stateAt(7, 0, wrong));
            Check.dueIllegalArgument("what ahead of the state", () -> hall.stateAt(7, 3, wrong));
        }
    }

    /** "IndexOutOfBoundsException if there is no such state". */
    private static void statesFrom0On() {
        Handshakewarden hall = Check.hallOf("a>b{0:b>a{0:end}}");
        Check.due("three", 3, hall.part(0, 0, 0));
        Check.due("state 0", 1, hall.stateAt(0, 0, 0));
        Check.due("state 2", 0, hall.stateAt(0, 2, 0));
        Check.due("step of 2", NONE, hall.step(0, 2, 0));
        for (int wrong : new int[] {-1, 3, Integer.MIN_VALUE, Integer.MAX_VALUE}) {
            Check.dueOutOfBounds("state " + wrong, () -> hall.stateAt(0, wrong, 0));
            Check.dueOutOfBounds("step of " + wrong, () -> hall.step(0, wrong, 0));
        }
        Check.dueOutOfBounds("END alone has one", () -> hall.stateAt(1, 1, 0));
        Check.dueOutOfBounds("END alone has one", () -> hall.step(1, 1, 0));
    }

    /** "kind: 0 to 9"; "NONE if the state has no such kind". */
    private static void kinds0To9() {
        Handshakewarden hall = Check.hallOf("a>b{0:end,9:b>a{4:end}}");
        hall.part(0, 0, 0);
        for (int kind = 0; kind < 10; kind++) {
            Check.due("SEND " + kind, kind == 0 ? 1 : kind == 9 ? 2 : NONE, hall.step(0, 0, kind));
            Check.due("END " + kind, NONE, hall.step(0, 1, kind));
            Check.due("HEAR " + kind, kind == 4 ? 1 : NONE, hall.step(0, 2, kind));
        }
        for (int wrong : new int[] {-1, 10, Integer.MIN_VALUE, Integer.MAX_VALUE}) {
            Check.dueIllegalArgument("kind " + wrong, () -> hall.step(0, 0, wrong));
            Check.dueIllegalArgument("kind ahead of the state", () -> hall.step(0, 3, wrong));
        }
    }

    /** "if the part has no other role, or more than one"; "(in all its states)". */
    private static void mirrorNeedsJustOneOther() {
        Handshakewarden hall = Check.hallOf("a>b{0:a>b{0:a>b{0:a>c{0:end}}}}", "a>b{0:b>a{0:end}}",
                "a>b{0:b>c{0:c>d{0:d>a{0:end}}}}");
        hall.part(0, 0, 0);
        Check.dueIllegalState("another one in the last state", () -> hall.mirror(0, 7));
        hall.part(0, 1, 0);
        Check.due("one", 0, hall.mirror(0, 7));
        hall.part(0, 2, 0);
        Check.due("one", 0, hall.mirror(0, 7));
        hall.part(1, 0, 0);
        Check.due("one, sent to and heard from", 1, hall.mirror(0, 7));
        hall.part(0, 3, 0);
        Check.dueIllegalState("none", () -> hall.mirror(0, 7));
        Check.dueIllegalState("none of a new slot", () -> hall.mirror(6, 7));
        for (int role = 0; role < 4; role++) {
            hall.part(2, role, 0);
            Check.dueIllegalState("two", () -> hall.mirror(0, 7));
        }
    }

    /** "a part of that other role, with SEND and HEAR changed, and the other role being that of the part". */
    private static void mirrorChangesSendAndHear() {
        Handshakewarden hall = Check.hallOf("loop x c>f{0:f>c{3:x,9:end}}");
        hall.part(0, 2, 0);
        Check.due("of f", 5, hall.mirror(0, 1));
        int[][] due = {{2, 2, 1}, {1, 2, 520}, {0, NONE, 0}};
        for (int state = 0; state < 3; state++) {
            for (int what = 0; what < 3; what++) {
                Check.due("mirror " + state + ", " + what, due[state][what], hall.stateAt(1, state, what));
            }
        }
        Check.due("steps stay", 1, hall.step(1, 0, 0));
        Check.due("steps stay", 0, hall.step(1, 1, 3));
        Check.due("steps stay", 2, hall.step(1, 1, 9));
        Check.due("of c again", 2, hall.mirror(1, 1));
        row(hall, 0, 1, "below");
        row(hall, 1, 0, "below");
    }

    private static void mirrorIntoEachSlot() {
        Handshakewarden hall = Check.hallOf("a>b{0:end}");
        hall.part(0, 0, 0);
        for (int to = 7; to >= 0; to--) {
            Check.due("into " + to, 1, hall.mirror(0, to));
            Check.due("role of " + to, 1, hall.roleOf(to));
            Check.due("HEAR", 2, hall.stateAt(to, 0, 0));
        }
        for (int slot = 7; slot >= 0; slot--) {
            Check.due("of " + slot, 0, hall.mirror(slot, slot));
            Check.due("SEND", 1, hall.stateAt(slot, 0, 0));
        }
    }

    private static void mirrorRefused() {
        Handshakewarden hall = Check.hallOf("a>b{0:b>a{1:end}}");
        hall.part(0, 1, 5);
        Check.dueIllegalState("no other role", () -> hall.mirror(0, 5));
        Check.due("the slot stays", 1, hall.roleOf(5));
        Check.due("the slot stays", 3, hall.states(5));
        Check.dueIllegalArgument("slot ahead of what cannot be", () -> hall.mirror(0, 8));
        Check.dueIllegalArgument("slot ahead of what cannot be", () -> hall.mirror(0, -1));
    }

    /** "END is below END". */
    private static void endBelowEnd() {
        Handshakewarden hall = two(4, "end", "a>b{0:end}");
        row(hall, 0, 1, "below");
        row(hall, 0, 0, "below");
        Handshakewarden other = two(0, "end", "a>b{0:end}");
        row(other, 0, 1, "");
        row(other, 1, 0, "");
        Handshakewarden hears = two(1, "end", "a>b{0:end}");
        row(hears, 0, 1, "");
        row(hears, 1, 0, "");
    }

    /** "SEND is below SEND to the same role, if each of its kinds is one of the other's". */
    private static void sendBelowSend() {
        row(two(0, "a>b{0:end,9:end}", "a>b{0:end,9:end}"), 0, 1, "below");
        row(two(0, "a>b{0:end}", "a>b{0:end,9:end}"), 0, 1, "below");
        row(two(0, "a>b{9:end}", "a>b{0:end,9:end}"), 0, 1, "below");
        row(two(0, "a>b{0:end,9:end}", "a>b{0:end}"), 0, 1, "");
        row(two(0, "a>b{0:end,9:end}", "a>b{9:end}"), 0, 1, "");
        row(two(0, "a>b{0:end}", "a>b{9:end}"), 0, 1, "");
        row(two(0, "a>b{0:end,5:end}", "a>b{0:end,6:end}"), 0, 1, "");
    }

    /** "HEAR is below HEAR from the same role, if each kind of the other's is one of its own". */
    private static void hearBelowHear() {
        row(two(1, "a>b{0:end,9:end}", "a>b{0:end,9:end}"), 0, 1, "below");
        row(two(1, "a>b{0:end,9:end}", "a>b{0:end}"), 0, 1, "below");
        row(two(1, "a>b{0:end,9:end}", "a>b{9:end}"), 0, 1, "below");
        row(two(1, "a>b{0:end}", "a>b{0:end,9:end}"), 0, 1, "");
        row(two(1, "a>b{9:end}", "a>b{0:end,9:end}"), 0, 1, "");
        row(two(1, "a>b{9:end}", "a>b{0:end}"), 0, 1, "");
    }

    private static void sortsAndRolesMustBeTheSame() {
        row(two(0, "a>b{0:end}", "a>f{0:end}"), 0, 1, "");
        row(two(1, "a>b{0:end}", "f>b{0:end}"), 0, 1, "");
        row(two(0, "a>b{0:end}", "b>a{0:end}"), 0, 1, "");
        row(two(0, "b>a{0:end}", "a>b{0:end}"), 0, 1, "");
    }

    /** "SEND to the same role", "HEAR from the same role": mirrors of one role may have unlike other roles. */
    private static void mirrorsOfUnlikeRoles() {
        String[] ahead = {"c>e", "e>c"};
        for (String first : ahead) {
            for (String behind : new String[] {"{0:end}", "{0:end,9:end}", "{0:c>e{1:end}}", "{0:e>c{1:end}}"}) {
                String text = first + behind;
                Handshakewarden hall = Check.hallOf(text, text.replace('e', 'f').replace("fnd", "end"), text);
                hall.part(0, 4, 0);
                hall.part(1, 5, 1);
                hall.part(2, 2, 2);
                Check.due("mirror of e", 2, hall.mirror(0, 3));
                Check.due("mirror of f", 2, hall.mirror(1, 4));
                row(hall, 3, 4, "");
                row(hall, 4, 3, "");
                row(hall, 2, 4, "");
                row(hall, 4, 2, "");
                row(hall, 2, 3, "below");
                row(hall, 3, 2, "below");
                row(hall, 3, 3, "below");
            }
        }
    }

    /** "and the next states are below for these". */
    private static void nextStatesMustBeBelow() {
        row(two(0, "a>b{3:a>b{0:end}}", "a>b{3:a>b{0:end,1:end}}"), 0, 1, "below");
        row(two(0, "a>b{3:a>b{0:end,1:end}}", "a>b{3:a>b{0:end}}"), 0, 1, "3");
        row(two(0, "a>b{3:b>a{0:end,1:end}}", "a>b{3:b>a{0:end}}"), 0, 1, "below");
        row(two(0, "a>b{3:b>a{0:end}}", "a>b{3:b>a{0:end,1:end}}"), 0, 1, "3");
        row(two(0, "a>b{3:end,4:end}", "a>b{3:end,4:a>b{0:end}}"), 0, 1, "4");
    }

    /** "(all that is not shown to be otherwise is below)". */
    private static void notShownOtherwiseIsBelow() {
        row(two(0, "loop x a>b{0:x}", "loop x a>b{0:a>b{0:x}}"), 0, 1, "below");
        row(two(0, "loop x a>b{0:a>b{0:x}}", "loop x a>b{0:a>b{0:a>b{0:x,1:end}}}"), 0, 1, "below");
        row(two(0, "loop x a>b{0:a>b{0:x,1:end}}", "loop x a>b{0:a>b{0:a>b{0:x,1:end}}}"), 0, 1, "0");
        row(two(1, "loop x a>b{0:x}", "loop x a>b{0:a>b{0:x}}"), 1, 0, "below");
    }

    /** "from 0 on": the first states by themselves. */
    private static void rowOfNoKind() {
        Handshakewarden hall = two(0, "a>b{0:end}", "a>b{1:end}");
        Check.due("its length", 0, hall.shows(0, 1));
        Check.dueOutOfBounds("it has no first kind", () -> hall.showsAt(0, 1, 0));
        Check.dueOutOfBounds("nor one ahead of it", () -> hall.showsAt(0, 1, -1));
        Check.due("not below", false, hall.isBelow(0, 1));
    }

    /** "the shortest row of kinds is shown". */
    private static void shortestRow() {
        row(two(0, "a>b{0:a>b{0:end},9:end}", "a>b{0:a>b{1:end},9:a>b{0:end}}"), 0, 1, "0");
        row(two(0, "a>b{0:a>b{0:a>b{0:end}},9:a>b{0:end}}", "a>b{0:a>b{0:a>b{1:end}},9:a>b{1:end}}"), 0, 1, "9");
        row(two(0, "loop x a>b{0:x,9:a>b{0:end}}", "a>b{0:a>b{0:end,9:end},9:a>b{0:end,9:end}}"), 0, 1, "00");
    }

    /** "of several the first one, by kinds one after another". */
    private static void firstRowByKinds() {
        row(two(0, "a>b{0:end,9:end}", "a>b{9:a>b{0:end},0:a>b{0:end}}"), 0, 1, "0");
        row(two(0, "a>b{2:a>b{0:end},1:a>b{9:end}}", "a>b{2:a>b{0:a>b{0:end}},1:a>b{9:a>b{0:end}}}"), 0, 1, "19");
        row(two(0, "a>b{1:a>b{3:end,2:end},2:a>b{0:end}}",
                "a>b{1:a>b{3:a>b{0:end},2:a>b{0:end}},2:a>b{0:a>b{0:end}}}"), 0, 1, "12");
        row(two(1, "a>b{1:a>b{3:end,2:end},2:a>b{0:end}}",
                "a>b{1:a>b{3:a>b{0:end},2:a>b{0:end}},2:a>b{0:a>b{0:end}}}"), 0, 1, "12");
    }

    /** "that leads in both to states": a kind that only one has leads nowhere. */
    private static void kindsThatBothHave() {
        row(two(0, "a>b{1:end}", "a>b{0:b>a{0:end},1:end}"), 0, 1, "below");
        row(two(1, "a>b{0:b>a{0:end},1:end}", "a>b{1:end}"), 0, 1, "below");
    }

    /** The states differ when both cycles, of three and of five letters, end at once. */
    private static void longRows() {
        for (int ahead = 0; ahead <= 4; ahead++) {
            String one = "a>b{7:".repeat(ahead) + "loop x a>b{0:a>b{0:a>b{0:x,1:end}}}" + "}".repeat(ahead);
            String first = "a>b{7:".repeat(ahead) + "loop x ";
            String four = "a>b{1:end,0:".repeat(4);
            Handshakewarden hall = two(0, one, first + four + "a>b{0:x}" + "}".repeat(4 + ahead));
            row(hall, 0, 1, "7".repeat(ahead) + "0".repeat(14));
            Check.due("the first kind again", ahead == 0 ? 0 : 7, hall.showsAt(0, 1, 0));
            Check.due("the last kind", 0, hall.showsAt(0, 1, 13 + ahead));
            Check.dueOutOfBounds("behind it", () -> hall.showsAt(0, 1, 100));
            hall.part(0, 1, 2);
            hall.part(1, 1, 3);
            hall.mirror(2, 2);
            hall.mirror(3, 3);
            row(hall, 0, 3, "7".repeat(ahead) + "0".repeat(14));
            row(hall, 2, 1, "7".repeat(ahead) + "0".repeat(14));
            row(hall, 2, 3, "7".repeat(ahead) + "0".repeat(14));
            row(hall, 0, 2, "below");
            row(hall, 2, 0, "below");
        }
    }

    /** "place: 0 for the first one"; "IndexOutOfBoundsException if there is no such place". */
    private static void placesOfTheRow() {
        Handshakewarden hall = two(0, "a>b{4:a>b{9:end}}", "a>b{4:a>b{9:a>b{0:end}}}");
        Check.due("first", 4, hall.showsAt(0, 1, 0));
        Check.due("last", 9, hall.showsAt(0, 1, 1));
        for (int wrong : new int[] {-1, 2, Integer.MIN_VALUE, Integer.MAX_VALUE}) {
            Check.dueOutOfBounds("place " + wrong, () -> hall.showsAt(0, 1, wrong));
            Check.dueOutOfBounds("of parts that are below", () -> hall.showsAt(0, 0, wrong));
            Check.dueIllegalArgument("slot ahead of place", () -> hall.showsAt(8, 1, wrong));
            Check.dueIllegalArgument("other ahead of place", () -> hall.showsAt(0, -1, wrong));
        }
        Check.dueOutOfBounds("below has no first", () -> hall.showsAt(0, 0, 0));
    }

    /** "false if they are of unlike roles"; "NONE if it is below, or they are of unlike roles". */
    private static void unlikeRoles() {
        Handshakewarden hall = Check.hallOf("a>b{0:end}", "c>b{0:end}");
        hall.part(0, 0, 0);
        hall.part(0, 1, 1);
        hall.part(1, 2, 2);
        hall.part(0, 5, 3);
        int[][] pairs = {{0, 1}, {0, 2}, {1, 2}, {3, 4}, {4, 3}};
        for (int[] pair : pairs) {
            Check.due("isBelow", false, hall.isBelow(pair[0], pair[1]));
            Check.due("shows", NONE, hall.shows(pair[0], pair[1]));
            Check.dueOutOfBounds("showsAt", () -> hall.showsAt(pair[0], pair[1], 0));
        }
        Check.due("END of the same role", true, hall.isBelow(4, 5));
        Check.due("shows nothing, too", NONE, hall.shows(4, 5));
        Handshakewarden other = two(0, "a>b{3:a>b{0:end}}", "a>b{3:a>b{1:end}}");
        other.part(0, 1, 2);
        row(other, 0, 1, "3");
        Check.due("behind a row that shows", NONE, other.shows(0, 2));
        Check.due("and ahead of one", 1, other.shows(0, 1));
        Check.due("behind one again", NONE, other.shows(2, 1));
        Check.dueOutOfBounds("no row", () -> other.showsAt(2, 1, 0));
        Check.due("not below", false, other.isBelow(2, 0));
    }

    private static void fits(boolean due, String one, int role, String other, int otherRole) {
        Handshakewarden hall = Check.hallOf(one, other);
        hall.part(0, role, 0);
        hall.part(1, otherRole, 7);
        Check.due(role + " of " + one + " and " + otherRole + " of " + other, due, hall.fit(0, 7));
    }

    /** "Two parts fit if each one has just one other role, which is that of the other one". */
    private static void fitNeedsOneOtherRole() {
        fits(true, "a>b{0:end}", 0, "a>b{0:end}", 1);
        fits(true, "a>b{0:end}", 1, "a>b{0:end}", 0);
        fits(false, "a>b{0:end}", 0, "a>b{0:end}", 0);
        fits(false, "a>b{0:end}", 0, "c>b{0:end}", 1);
        fits(false, "a>c{0:end}", 0, "a>b{0:end}", 1);
        fits(false, "a>b{0:end}", 0, "a>c{0:end}", 2);
        fits(false, "a>b{0:a>c{0:end}}", 0, "a>b{0:end}", 1);
        fits(false, "a>b{0:end}", 0, "a>b{0:end,1:b>c{0:end}}", 1);
        fits(true, "f>e{0:end}", 5, "f>e{0:end}", 4);
    }

    /** "and the first one is below the mirror of the second one". */
    private static void fitIsBelowTheMirror() {
        fits(true, "a>b{0:end}", 0, "a>b{0:end,9:end}", 1);
        fits(false, "a>b{0:end,9:end}", 0, "a>b{0:end}", 1);
        fits(true, "a>b{0:end,9:end}", 1, "a>b{0:end}", 0);
        fits(false, "a>b{0:end}", 1, "a>b{0:end,9:end}", 0);
        fits(false, "a>b{0:end}", 0, "b>a{0:end}", 1);
        fits(false, "a>b{0:end}", 0, "a>b{0:a>b{0:end}}", 1);
        fits(true, "loop x a>b{0:b>a{0:x}}", 0, "a>b{0:loop x b>a{0:a>b{0:x}}}", 1);
        String nine = "a>b{0:end,1:end,2:end,3:end,4:end,5:end,6:end,7:end,8:end,9:";
        fits(true, nine + "end}", 0, nine + "end}", 1);
        fits(false, nine + "a>b{0:end}}", 0, nine + "end}", 1);
        fits(true, nine + "a>b{0:end}}", 0, nine + "a>b{0:end,1:end}}", 1);
        fits(false, nine + "a>b{0:end,1:end}}", 0, nine + "a>b{0:end}}", 1);
        Handshakewarden hall = Check.hallOf("c>f{0:f>c{1:end},9:end}", "c>f{0:end,9:end}");
        hall.part(0, 2, 0);
        hall.mirror(0, 1);
        hall.part(1, 2, 2);
        hall.mirror(2, 3);
        Check.due("a part and its mirror", true, hall.fit(0, 1));
        Check.due("a mirror and its part", true, hall.fit(1, 0));
        Check.due("a mirror and itself", false, hall.fit(1, 1));
        Check.due("a part and another mirror", false, hall.fit(0, 3));
        Check.due("a mirror and another part", false, hall.fit(3, 0));
    }

    /** "(so a part that is just END fits none)". */
    private static void endFitsNone() {
        Handshakewarden hall = Check.hallOf("a>b{0:end}");
        for (int role = 0; role < 6; role++) {
            hall.part(1, role, 0);
            for (int other = 0; other < 6; other++) {
                hall.part(1, other, 1);
                Check.due("END and END", false, hall.fit(0, 1));
                Check.due("END and itself", false, hall.fit(0, 0));
            }
            hall.part(0, 1, 2);
            Check.due("END and HEAR", false, hall.fit(0, 2));
            Check.due("HEAR and END", false, hall.fit(2, 0));
        }
    }

    /** What was asked before does not stay when a slot has another part. */
    private static void slotsAreHeldAsTheyAreNow() {
        Handshakewarden hall = two(0, "a>b{0:end}", "a>b{0:end,1:end}");
        row(hall, 0, 1, "below");
        row(hall, 1, 0, "");
        hall.part(0, 0, 1);
        row(hall, 1, 0, "below");
        hall.part(1, 0, 0);
        row(hall, 0, 1, "");
        hall.part(0, 1, 1);
        row(hall, 0, 0, "below");
        Check.due("they do not fit", false, hall.fit(0, 1));
        hall.part(1, 1, 1);
        Check.due("now they do", true, hall.fit(0, 1));
        Check.due("and the other way", true, hall.fit(1, 0));
    }
}
