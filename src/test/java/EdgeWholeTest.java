/** Each sentence on places that names a boundary case: promises 7 to 11. */
public final class EdgeWholeTest {
    private static final int NONE = Handshakewarden.NONE;
    private static final int[] WILD = {-1, Integer.MIN_VALUE, Integer.MAX_VALUE};

    public static void main(String[] args) {
        wholes0To3();
        fewestAndMostPlaces();
        allEndsAreOnePlace();
        nameIsThePlaceOfItsLoop();
        numberedAsTheyAreComeTo();
        leftAheadOfRight();
        placesFrom0On();
        what0To3();
        whatOfEachSort();
        kinds0To9();
        kindsOfBeside();
        rolesOfNoneAndOfAll();
        alikeWholes0To3();
        alikeByItsFirstPlaces();
        alikeIfNotShownOtherwise();
        alikeOfBeside();
        orderOfExceptions();
        Check.end("EdgeWholeTest");
    }

    /** "There are four wholes, 0 to 3"; "IllegalArgumentException if whole is out of range". */
    private static void wholes0To3() {
        Handshakewarden hall = Check.hallOf("end", "a>b{0:end}", "a>b{0:b>a{0:end}}", "(end|end)");
        int[] places = {1, 2, 3, 2};
        int[] roles = {0, 3, 3, 0};
        for (int whole = 0; whole < 4; whole++) {
            Check.due("places(" + whole + ")", places[whole], hall.places(whole));
            Check.due("roles(" + whole + ")", roles[whole], hall.roles(whole));
            Check.due("placeAt(" + whole + ")", whole == 3 ? 2 : whole == 0 ? 0 : 1, hall.placeAt(whole, 0, 0));
            Check.due("next(" + whole + ")", whole == 0 ? NONE : 1, hall.next(whole, 0, 0));
        }
        for (int wrong : new int[] {-1, 4, Integer.MIN_VALUE, Integer.MAX_VALUE}) {
            Check.dueIllegalArgument("places", () -> hall.places(wrong));
            Check.dueIllegalArgument("roles", () -> hall.roles(wrong));
            Check.dueIllegalArgument("placeAt", () -> hall.placeAt(wrong, 0, 0));
            Check.dueIllegalArgument("next", () -> hall.next(wrong, 0, 0));
        }
    }

    /** A whole has one place at least; a place more takes six bytes or more, so 40 fit on the tape. */
    private static void fewestAndMostPlaces() {
        Handshakewarden hall = new Handshakewarden();
        Check.due("one place", 1, Check.read(hall, 0, "end"));
        String three = "((end|end)|(end|end))";
        String seven = "(" + three + "|" + three + ")";
        String fifteen = "(" + seven + "|" + seven + ")";
        String most = "(" + fifteen + "|(" + fifteen + "|" + seven + "))";
        Check.due("bytes", 237, most.length());
        Check.due("39 of BESIDE and one END", 40, Check.read(hall, 3, most));
        for (int place = 0, ends = 0; place < 40; place++) {
            ends += hall.placeAt(3, place, 0) == 0 ? 1 : 0;
            Check.due("one END", true, ends <= 1 && (place < 39 || ends == 1));
        }
        Check.dueOutOfBounds("one more is not there", () -> hall.placeAt(3, 40, 0));
        Check.dueOutOfBounds("one more is not there", () -> hall.next(3, 40, 0));
        Check.due("no role", 0, hall.roles(3));
        Check.due("cut for nobody", 0, hall.cut(3));
    }

    /** "all ends are one place". */
    private static void allEndsAreOnePlace() {
        Handshakewarden hall = Check.hallOf("a>b{0:end,1:end,2:end,3:end,4:end,5:end,6:end,7:end,8:end,9:end}",
                "(end|(end|end))", "(a>b{0:end}|c>d{0:end})", "loop x loop y end");
        Check.due("of branches", 2, hall.places(0));
        for (int kind = 0; kind < 10; kind++) {
            Check.due("the same one", 1, hall.next(0, 0, kind));
        }
        Check.due("of brackets", 3, hall.places(1));
        Check.due("END is left of 0", 1, hall.next(1, 0, 0));
        Check.due("and left of 2", 1, hall.next(1, 2, 0));
        Check.due("and right of 2", 1, hall.next(1, 2, 1));
        Check.due("of both sides", 4, hall.places(2));
        Check.due("of loops", 1, hall.places(3));
    }

    /** "A NAME is the place of its loop". */
    private static void nameIsThePlaceOfItsLoop() {
        Handshakewarden hall = Check.hallOf("loop x a>b{0:x}", "loop x loop y a>b{0:x,1:y}",
                "a>b{0:loop x b>a{0:a>b{1:x}}}", "loop x a>b{0:(loop x a>b{0:x}|end),1:x}");
        Check.due("one place", 1, hall.places(0));
        Check.due("itself", 0, hall.next(0, 0, 0));
        Check.due("loops of one place", 1, hall.places(1));
        Check.due("the place of x", 0, hall.next(1, 0, 0));
        Check.due("the place of y", 0, hall.next(1, 0, 1));
        Check.due("not the first place", 1, hall.next(2, 2, 1));
        Check.due("the loop inside", 2, hall.next(3, 2, 0));
        Check.due("the loop outside", 0, hall.next(3, 0, 1));
    }

    /** "numbered as they are come to ... one after another by their numbers ... by ascending kinds". */
    private static void numberedAsTheyAreComeTo() {
        Handshakewarden hall = Check.hallOf("a>b{9:a>c{0:end},0:a>d{0:a>e{0:end}},5:a>f{0:end}}");
        int[] receivers = {1, 3, 5, 2, 4, NONE};
        for (int place = 0; place < 6; place++) {
            Check.due("receiver of " + place, receivers[place], hall.placeAt(0, place, 2));
        }
        Check.due("0 first", 1, hall.next(0, 0, 0));
        Check.due("5 next", 2, hall.next(0, 0, 5));
        Check.due("9 last", 3, hall.next(0, 0, 9));
        Check.due("behind place 1", 4, hall.next(0, 1, 0));
        Check.due("END behind place 2", 5, hall.next(0, 2, 0));
        Check.due("the first one is 0", 0, Check.hallOf("loop x a>b{0:x}").next(0, 0, 0));
    }

    /** "the left one ahead of the right one". */
    private static void leftAheadOfRight() {
        Handshakewarden hall = Check.hallOf("(e>f{9:end}|a>b{0:end})", "(end|a>b{0:end})");
        Check.due("left", 1, hall.next(0, 0, 0));
        Check.due("right", 2, hall.next(0, 0, 1));
        Check.due("e", 4, hall.placeAt(0, 1, 1));
        Check.due("a", 0, hall.placeAt(0, 2, 1));
        Check.due("END on the left", 1, hall.next(1, 0, 0));
        Check.due("END is 1", 0, hall.placeAt(1, 1, 0));
    }

    /** "IndexOutOfBoundsException if there is no such place". */
    private static void placesFrom0On() {
        Handshakewarden hall = Check.hallOf("a>b{0:b>a{0:end}}");
        for (int place = 0; place < 3; place++) {
            Check.due("sort", place == 2 ? 0 : 1, hall.placeAt(0, place, 0));
            Check.due("next", place == 2 ? NONE : place + 1, hall.next(0, place, 0));
        }
        for (int wrong : new int[] {-1, 3, Integer.MIN_VALUE, Integer.MAX_VALUE}) {
            Check.dueOutOfBounds("placeAt " + wrong, () -> hall.placeAt(0, wrong, 0));
            Check.dueOutOfBounds("next " + wrong, () -> hall.next(0, wrong, 0));
        }
        Check.dueOutOfBounds("another whole has one", () -> hall.placeAt(1, 1, 0));
        Check.dueOutOfBounds("another whole has one", () -> hall.next(1, 1, 0));
    }

    /** "IllegalArgumentException if ... what is out of range". */
    private static void what0To3() {
        Handshakewarden hall = Check.hallOf("b>f{0:end,9:end}");
        int[] due = {1, 1, 5, 513};
        for (int what = 0; what < 4; what++) {
            Check.due("what " + what, due[what], hall.placeAt(0, 0, what));
        }
        for (int wrong : new int[] {-1, 4, Integer.MIN_VALUE, Integer.MAX_VALUE}) {
            Check.dueIllegalArgument("what " + wrong, () -> hall.placeAt(0, 0, wrong));
        }
    }

    /** "(of a LETTER; otherwise NONE, of the kinds 0)". */
    private static void whatOfEachSort() {
        Handshakewarden hall = Check.hallOf("(a>b{0:end,1:end,2:end,3:end,4:end,5:end,6:end,7:end,8:end,9:end}|end)");
        int[][] due = {{2, NONE, NONE, 0}, {1, 0, 1, 1023}, {0, NONE, NONE, 0}};
        for (int place = 0; place < 3; place++) {
            for (int what = 0; what < 4; what++) {
                Check.due(place + ", " + what, due[place][what], hall.placeAt(0, place, what));
            }
        }
    }

    /** "kind: 0 to 9"; "NONE if there is no such one". */
    private static void kinds0To9() {
        Handshakewarden hall = Check.hallOf("a>b{0:end,9:b>a{4:end}}");
        for (int kind = 0; kind < 10; kind++) {
            Check.due("next " + kind, kind == 0 ? 1 : kind == 9 ? 2 : NONE, hall.next(0, 0, kind));
            Check.due("next of END", NONE, hall.next(0, 1, kind));
            Check.due("next of the other one", kind == 4 ? 1 : NONE, hall.next(0, 2, kind));
        }
        for (int wrong : new int[] {-1, 10, Integer.MIN_VALUE, Integer.MAX_VALUE}) {
            Check.dueIllegalArgument("kind " + wrong, () -> hall.next(0, 0, wrong));
        }
    }

    /** "0 for the left one and 1 for the right one of BESIDE". */
    private static void kindsOfBeside() {
        Handshakewarden hall = Check.hallOf("(a>b{0:end}|end)");
        Check.due("left", 1, hall.next(0, 0, 0));
        Check.due("right", 2, hall.next(0, 0, 1));
        for (int kind = 2; kind < 10; kind++) {
            Check.due("no other one", NONE, hall.next(0, 0, kind));
        }
        for (int wrong : new int[] {-1, 10}) {
            Check.dueIllegalArgument("kind " + wrong, () -> hall.next(0, 0, wrong));
        }
    }

    /** "the sum of 2 to the power of each". */
    private static void rolesOfNoneAndOfAll() {
        Handshakewarden hall = Check.hallOf("end", "(a>b{0:end}|(c>d{0:end}|e>f{0:end}))", "f>a{0:end}",
                "a>b{0:loop x c>b{0:x}}");
        Check.due("none", 0, hall.roles(0));
        Check.due("all", 63, hall.roles(1));
        Check.due("the first and the last one", 33, hall.roles(2));
        Check.due("in a place behind", 7, hall.roles(3));
    }

    /** "IllegalArgumentException if whole or other is out of range". */
    private static void alikeWholes0To3() {
        Handshakewarden hall = Check.hallOf("a>b{0:end}", "end", "end", "a>b{0:end}");
        for (int whole = 0; whole < 4; whole++) {
            for (int other = 0; other < 4; other++) {
                boolean due = (whole % 3 == 0) == (other % 3 == 0);
                Check.due("areAlike(" + whole + ", " + other + ")", due, hall.areAlike(whole, other));
            }
        }
        for (int wrong : new int[] {-1, 4, Integer.MIN_VALUE, Integer.MAX_VALUE}) {
            Check.dueIllegalArgument("whole " + wrong, () -> hall.areAlike(wrong, 0));
            Check.dueIllegalArgument("other " + wrong, () -> hall.areAlike(0, wrong));
            Check.dueIllegalArgument("both " + wrong, () -> hall.areAlike(wrong, wrong));
        }
    }

    private static void alike(boolean due, String one, String other) {
        Handshakewarden hall = Check.hallOf(one, other);
        Check.due(one + " and " + other, due, hall.areAlike(0, 1));
        Check.due(other + " and " + one, due, hall.areAlike(1, 0));
    }

    /** "END and END; LETTERs with the same roles and kinds". */
    private static void alikeByItsFirstPlaces() {
        alike(true, "end", "end");
        alike(false, "end", "(end|end)");
        alike(false, "end", "a>b{0:end}");
        alike(false, "a>b{0:end}", "(end|end)");
        alike(false, "a>b{0:end}", "f>b{0:end}");
        alike(false, "a>b{0:end}", "a>f{0:end}");
        alike(false, "a>b{0:end}", "b>a{0:end}");
        alike(false, "a>b{0:end}", "a>b{9:end}");
        alike(false, "a>b{0:end}", "a>b{0:end,9:end}");
        alike(true, "a>b{9:end,0:end}", "a>b{0:end,9:end}");
    }

    /** "and next places that are alike"; "all that is not shown to be otherwise is alike". */
    private static void alikeIfNotShownOtherwise() {
        alike(true, "loop x a>b{0:x}", "loop x a>b{0:a>b{0:a>b{0:x}}}");
        alike(true, "loop x a>b{0:a>b{0:x}}", "loop x a>b{0:a>b{0:a>b{0:x}}}");
        alike(false, "loop x a>b{0:x}", "a>b{0:a>b{0:a>b{0:a>b{0:a>b{0:a>b{0:end}}}}}}");
        alike(false, "a>b{0:end,9:b>a{0:end}}", "a>b{0:end,9:b>a{1:end}}");
        alike(false, "a>b{0:b>a{0:end},9:end}", "a>b{0:end,9:end}");
        alike(true, "a>b{0:b>a{0:end},9:b>a{0:end}}", "a>b{0:b>a{0:loop x end},9:b>a{0:end}}");
        alike(false, "loop x a>b{0:x,1:end}", "loop x a>b{0:a>b{0:x},1:end}");
    }

    /** "BESIDE and BESIDE with left and right places that are alike". */
    private static void alikeOfBeside() {
        alike(true, "(end|end)", "(end|end)");
        alike(false, "(end|a>b{0:end})", "(a>b{0:end}|end)");
        alike(false, "(a>b{0:end}|c>d{0:end})", "(a>b{0:end}|c>d{1:end})");
        alike(false, "(a>b{1:end}|c>d{0:end})", "(a>b{0:end}|c>d{0:end})");
        alike(true, "(a>b{0:end}|loop x c>d{0:x})", "(a>b{0:end}|loop x c>d{0:c>d{0:x}})");
        alike(false, "((end|end)|end)", "(end|(end|end))");
    }

    /** What is out of range is refused ahead of a place that is not there. */
    private static void orderOfExceptions() {
        Handshakewarden hall = new Handshakewarden();
        for (int wrong : WILD) {
            Check.dueIllegalArgument("whole, place", () -> hall.placeAt(4, wrong, 0));
            Check.dueIllegalArgument("what, place", () -> hall.placeAt(0, wrong, 4));
            Check.dueIllegalArgument("what, place", () -> hall.placeAt(0, wrong, -1));
            Check.dueIllegalArgument("whole, place", () -> hall.next(-1, wrong, 0));
            Check.dueIllegalArgument("kind, place", () -> hall.next(0, wrong, 10));
            Check.dueIllegalArgument("kind, place", () -> hall.next(0, wrong, -1));
        }
    }
}
