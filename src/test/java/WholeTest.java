/** Promises 7 to 11: places, placeAt, next, roles, areAlike. */
public final class WholeTest {
    public static void main(String[] args) {
        places();
        placesOfLetters();
        placesOfBeside();
        numbersByKinds();
        wrongNumbers();
        roles();
        areAlike();
        Check.end("WholeTest");
    }

    private static void places() {
        Handshakewarden hall = new Handshakewarden();
        Check.due("end", 1, Check.read(hall, 0, "end"));
        Check.due("loop x end", 1, Check.read(hall, 0, "loop x end"));
        Check.due("all ends are one place", 2, Check.read(hall, 1, "a>b{0:end,1:end,2:end}"));
        Check.due("a loop is one place", 1, Check.read(hall, 2, "loop x a>b{0:x}"));
        Check.due("two loops are one place", 2,
                Check.read(hall, 3, "loop x loop y a>b{0:x,1:y,2:end}"));
        Check.due("places(0)", 1, hall.places(0));
        Check.due("places(1)", 2, hall.places(1));
        Check.due("places(2)", 1, hall.places(2));
        Check.due("places(3)", 2, hall.places(3));
        Check.due("same letters are two places", 4,
                Check.read(hall, 0, "a>b{0:b>a{0:end},1:b>a{0:end}}"));
        Check.dueIllegalArgument("places(-1)", () -> hall.places(-1));
        Check.dueIllegalArgument("places(4)", () -> hall.places(4));
    }

    private static void place(Handshakewarden hall, int place, int sort, int from, int to, int kinds) {
        Check.due("sort of " + place, sort, hall.placeAt(0, place, 0));
        Check.due("sender of " + place, from, hall.placeAt(0, place, 1));
        Check.due("receiver of " + place, to, hall.placeAt(0, place, 2));
        Check.due("kinds of " + place, kinds, hall.placeAt(0, place, 3));
    }

    private static void placesOfLetters() {
        Handshakewarden hall = Check.hallOf("loop x a>f{0:f>a{1:x,9:end},3:f>a{4:end}}");
        place(hall, 0, 1, 0, 5, 9);
        place(hall, 1, 1, 5, 0, 514);
        place(hall, 2, 1, 5, 0, 16);
        place(hall, 3, 0, -1, -1, 0);
        Check.due("next(0, 0)", 1, hall.next(0, 0, 0));
        Check.due("next(0, 3)", 2, hall.next(0, 0, 3));
        Check.due("next(0, 1)", -1, hall.next(0, 0, 1));
        Check.due("next(1, 1)", 0, hall.next(0, 1, 1));
        Check.due("next(1, 9)", 3, hall.next(0, 1, 9));
        Check.due("next(2, 4)", 3, hall.next(0, 2, 4));
        Check.due("next of END", -1, hall.next(0, 3, 0));
    }

    private static void placesOfBeside() {
        Handshakewarden hall = Check.hallOf("(a>b{0:end}|loop y c>d{1:y,2:d>c{3:end}})");
        place(hall, 0, 2, -1, -1, 0);
        place(hall, 1, 1, 0, 1, 1);
        place(hall, 2, 1, 2, 3, 6);
        place(hall, 3, 0, -1, -1, 0);
        place(hall, 4, 1, 3, 2, 8);
        Check.due("the left one", 1, hall.next(0, 0, 0));
        Check.due("the right one", 2, hall.next(0, 0, 1));
        Check.due("no third one", -1, hall.next(0, 0, 2));
        Check.due("no tenth one", -1, hall.next(0, 0, 9));
        Check.due("around", 2, hall.next(0, 2, 1));
        Check.due("both sides may be one place", 2, Check.read(hall, 0, "(end|end)"));
        Check.due("left END", 1, hall.next(0, 0, 0));
        Check.due("right END", 1, hall.next(0, 0, 1));
        Check.due("a loop of BESIDE", 2, Check.read(hall, 0, "loop x (end|end)"));
    }

    private static void numbersByKinds() {
        Handshakewarden hall = Check.hallOf("a>b{7:b>a{0:end},3:b>c{0:end},5:end}");
        Check.due("the least kind first", 1, hall.next(0, 0, 3));
        Check.due("then the next one", 2, hall.next(0, 0, 5));
        Check.due("then the last one", 3, hall.next(0, 0, 7));
        place(hall, 1, 1, 1, 2, 1);
        place(hall, 2, 0, -1, -1, 0);
        Check.read(hall, 0, "a>b{0:a>c{0:a>d{0:end}},1:a>e{0:end}}");
        Check.due("places ahead of the places behind them", 4, hall.placeAt(0, 2, 2));
        Check.due("places behind come later", 3, hall.placeAt(0, 3, 2));
        Check.due("END is come to last", 4, hall.next(0, 2, 0));
    }

    private static void wrongNumbers() {
        Handshakewarden hall = Check.hallOf("a>b{0:end}");
        Check.dueIllegalArgument("placeAt whole", () -> hall.placeAt(4, 0, 0));
        Check.dueIllegalArgument("placeAt whole", () -> hall.placeAt(-1, 9, 0));
        Check.dueIllegalArgument("placeAt what", () -> hall.placeAt(0, 0, 4));
        Check.dueIllegalArgument("placeAt what ahead of place", () -> hall.placeAt(0, 9, -1));
        Check.dueOutOfBounds("placeAt place", () -> hall.placeAt(0, 2, 0));
        Check.dueOutOfBounds("placeAt place", () -> hall.placeAt(0, -1, 0));
        Check.dueIllegalArgument("next whole", () -> hall.next(4, 0, 0));
        Check.dueIllegalArgument("next kind", () -> hall.next(0, 0, 10));
        Check.dueIllegalArgument("next kind ahead of place", () -> hall.next(0, 5, -1));
        Check.dueOutOfBounds("next place", () -> hall.next(0, 2, 0));
        Check.dueOutOfBounds("next place", () -> hall.next(0, -1, 0));
        Check.dueOutOfBounds("next place", () -> hall.next(0, Integer.MAX_VALUE, 0));
    }

    private static void roles() {
        Handshakewarden hall = Check.hallOf("end", "a>b{0:b>f{0:end}}",
                "(a>c{0:end}|(b>d{0:end}|e>f{0:end}))", "loop x d>e{0:x}");
        Check.due("roles of end", 0, hall.roles(0));
        Check.due("roles a, b, f", 35, hall.roles(1));
        Check.due("all roles", 63, hall.roles(2));
        Check.due("roles d, e", 24, hall.roles(3));
        Check.dueIllegalArgument("roles(-1)", () -> hall.roles(-1));
        Check.dueIllegalArgument("roles(4)", () -> hall.roles(4));
    }

    private static void alike(String one, String two, boolean due) {
        Handshakewarden hall = Check.hallOf(one, two);
        Check.due(one + " and " + two, due, hall.areAlike(0, 1));
        Check.due(two + " and " + one, due, hall.areAlike(1, 0));
        Check.due(one + " and itself", true, hall.areAlike(0, 0));
    }

    private static void areAlike() {
        alike("end", "end", true);
        alike("end", "loop x end", true);
        alike("end", "a>b{0:end}", false);
        alike("loop x a>b{0:x}", "a>b{0:loop y a>b{0:a>b{0:y}}}", true);
        alike("loop x a>b{0:x}", "loop x a>b{0:a>b{0:a>b{0:end}}}", false);
        alike("loop x a>b{0:x}", "loop x a>b{0:b>a{0:x}}", false);
        alike("a>b{0:end,1:end}", "a>b{1:end,0:end}", true);
        alike("a>b{0:end,1:end}", "a>b{0:end}", false);
        alike("a>b{0:end}", "a>b{1:end}", false);
        alike("a>b{0:end}", "a>c{0:end}", false);
        alike("a>b{0:end}", "c>b{0:end}", false);
        alike("a>b{0:b>a{0:end},1:b>a{0:end}}", "a>b{0:b>a{0:end},1:b>a{1:end}}", false);
        alike("(a>b{0:end}|c>d{0:end})", "(a>b{0:end}|c>d{0:end})", true);
        alike("(a>b{0:end}|c>d{0:end})", "(c>d{0:end}|a>b{0:end})", false);
        alike("(end|end)", "end", false);
        alike("(a>b{0:end}|end)", "a>b{0:end}", false);
        Handshakewarden hall = new Handshakewarden();
        Check.dueIllegalArgument("areAlike whole", () -> hall.areAlike(-1, 0));
        Check.dueIllegalArgument("areAlike whole", () -> hall.areAlike(4, 0));
        Check.dueIllegalArgument("areAlike other", () -> hall.areAlike(0, 4));
        Check.dueIllegalArgument("areAlike other", () -> hall.areAlike(0, -1));
    }
}
