/** Each sentence on all runs that names a boundary case: promises 33 to 36. */
public final class EdgeAllRunsTest {
    private static final int NONE = Handshakewarden.NONE;
    private static final int[] FAR_BOUNDS = {0, 6, -1, Integer.MIN_VALUE, Integer.MAX_VALUE};

    /** With bound 1: 24 configurations, 25 of them, and both side by side behind a letter. */
    private static final String SIX = "{0:end,1:end,2:end,3:end,4:end,5:end}";
    private static final String SEVEN = "{0:end,1:end,2:end,3:end,4:end,5:end,6:end}";

    public static void main(String[] args) {
        boundsAndWhats();
        withoutARun();
        fewestConfigurations();
        configurationsAreStatesAndLetters();
        atMost600Configurations();
        moreThan600FindNothing();
        the600thIsLookedAt();
        fromItsBeginningOn();
        noneIsFound();
        stepsToStuck();
        stepsToNotKnown();
        stepsToLeft();
        hinderedOrNot();
        ringFromTheLeastRole();
        ringAsLongAsNotShown();
        ringAsLongAsNotAtEnd();
        ringOfTheFirstStuckOne();
        ringRefused();
        leastFrom1To5();
        leastUpTo600();
        rowsOfLengths0To12();
        rowsOfWholes0To3();
        rowsAreHeardAtOnce();
        rowsRefused();
        Check.end("EdgeAllRunsTest");
    }

    private static void finds(Handshakewarden hall, int bound, int... due) {
        for (int what = 0; what < 5; what++) {
            Check.due("all(" + bound + ", " + what + ")", due[what], hall.all(bound, what));
        }
    }

    private static void ring(Handshakewarden hall, int bound, int... due) {
        for (int place = 0; place < due.length; place++) {
            Check.due("ringAt(" + bound + ", " + place + ")", due[place], hall.ringAt(bound, place));
        }
        for (int wrong : new int[] {-1, due.length, Integer.MIN_VALUE, Integer.MAX_VALUE}) {
            Check.dueNoSuchElement("ringAt(" + bound + ", " + wrong + ")", () -> hall.ringAt(bound, wrong));
        }
    }

    private static Handshakewarden run(String text) {
        Handshakewarden hall = Check.hallOf(text);
        hall.begin(0, 1);
        return hall;
    }

    /** A run of the first text, in which roles get the parts of other texts. */
    private static Handshakewarden mixed(String text, Object... roleAndText) {
        Handshakewarden hall = run(text);
        for (int i = 0; i < roleAndText.length; i += 2) {
            Check.read(hall, 1, (String) roleAndText[i + 1]);
            hall.part(1, (Integer) roleAndText[i], 0);
            hall.put(0);
        }
        return hall;
    }

    /** Letters to and fro between two roles, the last one with several kinds. */
    private static String turns(char one, char other, int letters, String kinds) {
        StringBuilder text = new StringBuilder();
        for (int i = 0; i < letters; i++) {
            text.append(i % 2 == 0 ? one : other).append('>').append(i % 2 == 0 ? other : one);
            text.append(i < letters - 1 ? "{0:" : kinds);
        }
        return text + "}".repeat(letters - 1);
    }

    private static void boundsAndWhats() {
        Handshakewarden hall = run("loop x a>b{0:x}");
        for (int bound = 1; bound <= 5; bound++) {
            finds(hall, bound, bound + 1, NONE, NONE, NONE, 1);
        }
        for (int wrong : FAR_BOUNDS) {
            Check.dueIllegalArgument("bound " + wrong, () -> hall.all(wrong, 0));
            Check.dueIllegalArgument("bound " + wrong, () -> hall.ringAt(wrong, 0));
            Check.dueIllegalArgument("bound ahead of place", () -> hall.ringAt(wrong, -1));
        }
        for (int wrong : new int[] {-1, 5, Integer.MIN_VALUE, Integer.MAX_VALUE}) {
            Check.dueIllegalArgument("what " + wrong, () -> hall.all(1, wrong));
        }
    }

    /** "IllegalStateException if no run was begun"; what is out of range comes ahead of it. */
    private static void withoutARun() {
        Handshakewarden hall = Check.hallOf("a>b{0:end}");
        Check.dueIllegalState("all", () -> hall.all(1, 0));
        Check.dueIllegalState("ringAt", () -> hall.ringAt(5, 0));
        Check.dueIllegalState("ringAt ahead of place", () -> hall.ringAt(5, -1));
        Check.dueIllegalState("least", () -> hall.least());
        Check.dueIllegalArgument("bound", () -> hall.all(0, 0));
        Check.dueIllegalArgument("what", () -> hall.all(5, 5));
        Check.dueIllegalArgument("bound", () -> hall.ringAt(6, 0));
        Check.due("rows need none", 1L, hall.rows(0, 1));
    }

    private static void fewestConfigurations() {
        Handshakewarden nobody = run("end");
        finds(nobody, 1, 1, NONE, NONE, NONE, 0);
        finds(nobody, 5, 1, NONE, NONE, NONE, 0);
        finds(mixed("a>b{0:end}", 0, "end", 1, "end"), 1, 1, NONE, NONE, NONE, 0);
        finds(run("a>b{0:end}"), 1, 3, NONE, NONE, NONE, 0);
    }

    /** "(a configuration is the states of all roles and the letters in all queues)". */
    private static void configurationsAreStatesAndLetters() {
        finds(run("loop x a>b{0:x}"), 3, 4, NONE, NONE, NONE, 1);
        finds(run("loop x a>b{0:x,1:x}"), 3, 15, NONE, NONE, NONE, 1);
        finds(run("loop x a>b{0:a>b{0:x}}"), 1, 4, NONE, NONE, NONE, 1);
        finds(run("a>b{0:end,9:end}"), 1, 4, NONE, NONE, NONE, 0);
        finds(run("(a>b{0:end}|c>d{0:end})"), 1, 9, NONE, NONE, NONE, 0);
    }

    /** "as long as there are at most 600 configurations". */
    private static void atMost600Configurations() {
        Handshakewarden sixHundred = run("(" + turns('a', 'c', 9, SIX) + "|" + turns('b', 'd', 9, SEVEN) + ")");
        finds(sixHundred, 1, 600, NONE, NONE, NONE, 0);
        Handshakewarden oneMore = run("a>b{0:(" + turns('a', 'c', 9, SIX) + "|" + turns('b', 'd', 9, SIX) + ")}");
        finds(oneMore, 1, NONE, NONE, NONE, NONE, NONE);
        finds(run("loop x d>b{0:f>a{3:x,5:x,7:x},2:x}"), 3, 600, NONE, NONE, NONE, 1);
        finds(run("e>f{0:loop x f>a{0:loop y e>f{1:f>a{3:y,5:y}},1:x}}"), 4, 600, NONE, NONE, NONE, 1);
        finds(run("loop x d>c{1:x,2:loop y d>c{3:c>d{0:d>c{2:loop z x,3:end},2:x,4:end},5:x,7:x},5:x}"), 5,
                NONE, NONE, NONE, NONE, NONE);
        finds(run("c>b{2:loop x c>b{1:c>b{2:x,4:end,7:x},4:x,5:x},3:end,6:end}"), 5, 598, NONE, NONE, NONE, 1);
    }

    /** What was found ahead of the 601st configuration does not count. */
    private static void moreThan600FindNothing() {
        String many = "(loop x a>b{0:x,1:x,2:x,3:x}|loop x c>d{0:x,1:x,2:x,3:x})";
        finds(mixed(many, 3, "end"), 4, NONE, NONE, NONE, NONE, NONE);
        finds(mixed(many, 3, "c>d{0:end}"), 4, NONE, NONE, NONE, NONE, NONE);
        Handshakewarden stuck = mixed("a>b{0:end}", 0, "loop x a>b{0:x,1:x,2:x,3:x,4:x,5:x,6:x,7:x,8:x,9:x}", 1, "end");
        finds(stuck, 2, 111, 2, NONE, NONE, 1);
        ring(stuck, 2, 0);
        finds(stuck, 3, NONE, NONE, NONE, NONE, NONE);
        Check.dueNoSuchElement("a ring of more than 600", () -> stuck.ringAt(3, 0));
        Check.due("a ring of fewer is there still", 0, stuck.ringAt(1, 0));
    }

    /** The last one of 600 is looked at as the others are, and what it leads to is the 601st. */
    private static void the600thIsLookedAt() {
        String ten = "{0:end,1:end,2:end,3:end,4:end,5:end,6:end,7:end,8:end,9:end}";
        String text = "(" + turns('a', 'c', 10, ten) + "|" + turns('b', 'd', 10, "{0:end}") + ")";
        finds(mixed(text, 1, turns('b', 'd', 9, "{0:end}")), 1, 600, NONE, NONE, 39, 0);
        // A letter goes around five roles; the parts are back where they began after 60 rounds of 10 steps.
        String around = "a>b{0:b>c{0:c>d{0:d>e{0:e>a{0:x}}}}}";
        String three = "b>c{0:c>d{0:".repeat(3) + "x" + "}".repeat(6);
        String four = "a>b{0:b>c{0:".repeat(4) + "x" + "}".repeat(8);
        String five = "a>b{0:e>a{0:".repeat(5) + "x" + "}".repeat(10);
        Handshakewarden same = mixed("loop x " + around, 0, "loop x " + five, 1, "loop x " + four, 2, "loop x " + three);
        finds(same, 1, 600, NONE, NONE, NONE, 0);
        Handshakewarden more = mixed("loop x " + around, 0, "a>b{0:e>a{0:loop x " + four.replace("b>c", "e>a") + "}}",
                1, "loop x " + five.replace("e>a", "b>c"), 2, "loop x " + three);
        finds(more, 1, NONE, NONE, NONE, NONE, NONE);
    }

    /** "from its beginning on". */
    private static void fromItsBeginningOn() {
        Handshakewarden hall = run("a>b{0:b>a{0:end}}");
        for (int step = 0; step < 3; step++) {
            finds(hall, 1, 5, NONE, NONE, NONE, 0);
            Check.due("the run stays", step, hall.stateOf(0) + hall.stateOf(1));
            if (step == 0) {
                hall.send(0, 0);
            } else if (step == 1) {
                hall.hear(1);
            }
        }
        Check.due("least", 1, hall.least());
        Check.due("the run stays", 1, hall.sent());
        Check.due("of the bound that is asked", 5, hall.all(5, 0));
    }

    /** "NONE if there is none (1 to 3)". */
    private static void noneIsFound() {
        finds(run("a>b{0:a>b{0:end}}"), 1, 5, NONE, NONE, NONE, 1);
        finds(run("a>b{0:a>b{0:end}}"), 2, 6, NONE, NONE, NONE, 0);
    }

    /** "the fewest steps to a configuration that is stuck". */
    private static void stepsToStuck() {
        finds(mixed("a>b{0:end}", 0, "b>a{0:end}"), 1, 1, 0, NONE, NONE, 0);
        finds(mixed("a>b{0:a>b{0:end}}", 1, "end"), 1, 2, 1, NONE, NONE, 1);
        finds(mixed("a>b{0:a>b{0:end}}", 1, "end"), 2, 3, NONE, NONE, 2, 0);
        // By kind 0 it is stuck behind six steps, by kind 1 behind two.
        Handshakewarden two = mixed("a>b{0:a>b{0:a>b{0:b>a{0:end}}},1:b>a{0:end}}",
                1, "a>b{0:a>b{0:a>b{0:a>b{0:end}}},1:a>b{0:end}}");
        Check.due("the fewest", 2, two.all(1, 1));
        Handshakewarden six = mixed("a>b{0:a>b{0:a>b{0:b>a{0:end}}},1:b>a{0:end}}",
                1, "a>b{0:a>b{0:a>b{0:a>b{0:end}}},1:b>a{0:end}}");
        Check.due("of the only one", 6, six.all(1, 1));
    }

    /** "the first letter of a queue is not known to a role at HEAR from it". */
    private static void stepsToNotKnown() {
        finds(mixed("a>b{0:end}", 0, "a>b{9:end}"), 1, 2, 1, 1, NONE, 0);
        // Behind the first letter one is not known: it counts when it is the first.
        finds(mixed("a>b{0:a>b{1:end}}", 1, "a>b{0:a>b{2:end}}"), 5, 5, 3, 3, NONE, 0);
        // A role at SEND or at END does not hear, so nothing is not known to it.
        finds(mixed("a>b{0:end}", 1, "b>a{0:end}"), 1, 4, NONE, NONE, 2, 0);
        finds(mixed("a>b{0:end}", 1, "end"), 1, 2, NONE, NONE, 1, 0);
        // It is not stuck, as c and d go on and on.
        Handshakewarden on = mixed("(a>b{0:end}|loop x c>d{0:x})", 0, "a>b{1:end}");
        finds(on, 1, 4, NONE, 1, NONE, 1);
    }

    /** "the fewest steps to one in which a letter is left". */
    private static void stepsToLeft() {
        finds(mixed("a>b{0:end}", 1, "end"), 1, 2, NONE, NONE, 1, 0);
        finds(mixed("a>b{0:end}", 0, "a>b{0:a>b{1:end}}"), 1, 4, NONE, NONE, 3, 1);
        finds(run("a>f{0:end}"), 1, 3, NONE, NONE, NONE, 0);
        // While b is not at END, no letter is left.
        finds(mixed("a>b{0:end}", 0, "a>b{0:a>b{1:end}}"), 2, 5, NONE, NONE, 3, 0);
        Handshakewarden two = mixed("a>b{0:a>b{0:end},1:end}", 1, "a>b{0:end,1:end}");
        Check.due("by kind 0 alone", 3, two.all(1, 3));
    }

    /** "4 1 if a role is hindered, otherwise 0". */
    private static void hinderedOrNot() {
        Handshakewarden three = run("a>b{0:a>b{0:a>b{0:end}}}");
        int[] due = {1, 1, 0, 0, 0};
        for (int bound = 1; bound <= 5; bound++) {
            Check.due("bound " + bound, due[bound - 1], three.all(bound, 4));
        }
        Check.due("as each waits for the other", 0, run("loop x a>b{0:b>a{0:x}}").all(1, 4));
        Check.due("queues to others do not hinder", 0, run("a>b{0:a>c{0:end}}").all(1, 4));
    }

    /** "from the least role that is not at END on". */
    private static void ringFromTheLeastRole() {
        ring(mixed("a>b{0:end}", 0, "b>a{0:end}"), 1, 0, 1);
        ring(mixed("(a>b{0:end}|e>f{0:end})", 4, "f>e{0:end}"), 1, 4, 5);
        ring(mixed("(a>b{0:end}|e>f{0:end})", 4, "end"), 1, 5);
        ring(mixed("(a>b{0:end}|e>f{0:end})", 4, "f>e{0:end}", 5, "e>f{0:end}"), 5, 4, 5);
    }

    /** "each one's role that it waits for ... as long as a role is not shown already". */
    private static void ringAsLongAsNotShown() {
        String six = "(a>b{0:end}|(c>d{0:end}|e>f{0:end}))";
        ring(mixed(six, 0, "b>a{0:end}", 1, "c>b{0:end}", 2, "d>c{0:end}", 3, "e>d{0:end}", 4, "f>e{0:end}",
                5, "a>f{0:end}"), 1, 0, 1, 2, 3, 4, 5);
        ring(mixed(six, 0, "f>a{0:end}", 5, "b>f{0:end}", 1, "e>b{0:end}", 4, "b>e{0:end}", 2, "d>c{0:end}"),
                1, 0, 5, 1, 4);
        // Two roles, each of which sends to the other, have full queues.
        ring(mixed("a>b{0:end}", 0, "loop x a>b{0:x}", 1, "loop x b>a{0:x}"), 3, 0, 1);
    }

    /** "and is not at END". */
    private static void ringAsLongAsNotAtEnd() {
        ring(mixed("a>b{0:end}", 0, "b>a{0:end}", 1, "end"), 1, 0);
        ring(mixed("a>b{0:b>c{0:end}}", 0, "b>a{0:end}", 1, "c>b{0:end}", 2, "end"), 1, 0, 1);
        ring(mixed("a>b{0:end}", 0, "end"), 1, 1);
    }

    /** "by steps, then ... by the configuration from which they are come to, the role that steps, then the kind". */
    private static void ringOfTheFirstStuckOne() {
        String three = "a>b{0:b>c{0:end}}";
        // By the kind: both are stuck behind two steps of a and b.
        ring(mixed(three, 0, "a>b{0:b>a{0:end},1:c>a{0:end}}", 1, "a>b{0:c>b{0:end},1:a>b{0:end}}",
                2, "b>c{0:end}"), 1, 0, 1, 2);
        ring(mixed(three, 0, "a>b{1:b>a{0:end},0:c>a{0:end}}", 1, "a>b{1:c>b{0:end},0:a>b{0:end}}",
                2, "b>c{0:end}"), 1, 0, 2, 1);
        // By steps: kind 0 is stuck behind four, kind 9 behind two.
        ring(mixed(three, 0, "a>b{0:a>b{0:c>a{0:end}},9:b>a{0:end}}", 1, "a>b{0:a>b{0:c>b{0:end}},9:a>b{0:end}}",
                2, "b>c{0:end}"), 1, 0, 1);
    }

    /** "NoSuchElementException if no configuration is stuck ... or there is no such place". */
    private static void ringRefused() {
        Handshakewarden hall = run("a>b{0:end}");
        for (int place : new int[] {0, 1, -1, 6, Integer.MIN_VALUE, Integer.MAX_VALUE}) {
            Check.dueNoSuchElement("none is stuck", () -> hall.ringAt(1, place));
        }
        Handshakewarden left = mixed("a>b{0:end}", 1, "end");
        Check.dueNoSuchElement("a letter left is not stuck", () -> left.ringAt(1, 0));
        Handshakewarden full = mixed("a>b{0:a>b{0:end}}", 1, "end");
        Check.due("stuck with bound 1", 0, full.ringAt(1, 0));
        Check.dueNoSuchElement("not with bound 2", () -> full.ringAt(2, 0));
    }

    /** "the least bound by which no role is hindered ... 1 to 5; NONE if there is none". */
    private static void leastFrom1To5() {
        Check.due("nobody", 1, run("end").least());
        for (int letters = 1; letters <= 6; letters++) {
            Handshakewarden hall = run("a>b{0:".repeat(letters) + "end" + "}".repeat(letters));
            Check.due(letters + " letters", letters <= 5 ? letters : NONE, hall.least());
        }
        Check.due("never", NONE, run("loop x a>b{0:x}").least());
        Check.due("with other parts", 2, mixed("a>b{0:end}", 0, "a>b{0:a>b{0:end}}").least());
    }

    /** "or for a bound up to it there are more than 600 configurations". */
    private static void leastUpTo600() {
        Check.due("600", 1,
                run("(" + turns('a', 'c', 9, SIX) + "|" + turns('b', 'd', 9, SEVEN) + ")").least());
        Check.due("601", NONE,
                run("a>b{0:(" + turns('a', 'c', 9, SIX) + "|" + turns('b', 'd', 9, SIX) + ")}").least());
        // With bound 1 there are fewer, but a role is hindered; with bound 2 there are too many.
        Handshakewarden later = run("(loop x a>b{0:x,1:x,2:x,3:x}|loop x c>d{0:x,1:x,2:x,3:x,4:x,5:x})");
        Check.due("with bound 1", 35, later.all(1, 0));
        Check.due("with bound 2", NONE, later.all(2, 0));
        Check.due("then it is not known", NONE, later.least());
    }

    /** "length: 0 to 12"; "rows of just so many letters". */
    private static void rowsOfLengths0To12() {
        Handshakewarden hall = Check.hallOf("loop x a>b{0:x,9:x}", "a>b{0:b>a{0:end,1:end,2:end}}",
                "a>b{0:".repeat(12) + "end" + "}".repeat(12));
        for (int length = 0; length <= 12; length++) {
            Check.due("2 to the power of " + length, 1L << length, hall.rows(0, length));
            Check.due("up to two letters", length == 2 ? 3L : length < 2 ? 1L : 0L, hall.rows(1, length));
            Check.due("up to twelve letters", 1L, hall.rows(2, length));
            Check.due("end", length == 0 ? 1L : 0L, hall.rows(3, length));
        }
        for (int wrong : new int[] {-1, 13, Integer.MIN_VALUE, Integer.MAX_VALUE}) {
            Check.dueIllegalArgument("length " + wrong, () -> hall.rows(0, wrong));
        }
        String all = "{0:x,1:x,2:x,3:x,4:x,5:x,6:x,7:x,8:x,9:x}";
        Check.read(hall, 0, "(loop x a>b" + all + "|(loop x c>d" + all + "|loop x e>f" + all + "))");
        Check.due("30 to the power of 12, far beyond an int", 531441000000000000L, hall.rows(0, 12));
    }

    private static void rowsOfWholes0To3() {
        Handshakewarden hall = Check.hallOf("a>b{0:end}", "a>b{0:end,1:end}", "a>b{0:end,1:end,2:end}", "end");
        for (int whole = 0; whole < 4; whole++) {
            Check.due("rows of " + whole, whole == 3 ? 0L : whole + 1L, hall.rows(whole, 1));
        }
        for (int wrong : new int[] {-1, 4, Integer.MIN_VALUE, Integer.MAX_VALUE}) {
            Check.dueIllegalArgument("whole " + wrong, () -> hall.rows(wrong, 0));
        }
        hall.begin(0, 1);
        hall.send(0, 0);
        Check.due("the run does not matter", 2L, hall.rows(1, 1));
        Check.due("from the beginning on", 1L, hall.rows(0, 1));
    }

    /** "each one sent only if it can be heard at once"; "(a letter with its sender, receiver and kind)". */
    private static void rowsAreHeardAtOnce() {
        Handshakewarden hall = Check.hallOf("a>b{0:c>b{0:end}}", "a>b{0:c>d{0:end}}", "a>b{0:a>b{0:end}}",
                "(a>b{0:end}|c>d{0:end})");
        long[][] due = {{1, 1, 1, 0}, {1, 2, 2, 0}, {1, 1, 1, 0}, {1, 2, 2, 0}};
        for (int whole = 0; whole < 4; whole++) {
            for (int length = 0; length < 4; length++) {
                Check.due("rows of " + length + " by " + whole, due[whole][length], hall.rows(whole, length));
            }
        }
        Check.read(hall, 0, "a>b{0:a>b{5:end},1:a>b{5:end},2:a>b{6:end}}");
        Check.due("rows are told apart by their first letters, too", 3L, hall.rows(0, 2));
        // What c sends is one letter, whichever way the others went.
        Check.read(hall, 0, "a>b{0:c>d{0:end},1:c>d{0:end}}");
        Check.due("first letters", 3L, hall.rows(0, 1));
        Check.due("first two letters", 4L, hall.rows(0, 2));
        Check.due("three letters", 0L, hall.rows(0, 3));
    }

    private static void rowsRefused() {
        Handshakewarden hall = Check.hallOf("a>b{0:end,1:b>c{0:end}}");
        Check.dueIllegalState("cannot be cut", () -> hall.rows(0, 0));
        Check.dueIllegalState("cannot be cut", () -> hall.rows(0, 12));
        Check.dueIllegalArgument("length ahead of it", () -> hall.rows(0, 13));
        Check.dueIllegalArgument("length ahead of it", () -> hall.rows(0, -1));
    }
}
