/** Promises 33 to 36: all, ringAt, least, rows. */
public final class AllRunsTest {
    private static final int NONE = Handshakewarden.NONE;

    public static void main(String[] args) {
        countsConfigurations();
        moreThan600();
        stuck();
        notKnown();
        left();
        fewestSteps();
        rings();
        ringThatIsNot();
        least();
        isAQuestion();
        rows();
        rowsThatAreMany();
        rowsOfChains();
        wrongNumbers();
        Check.end("AllRunsTest");
    }

    private static void finds(Handshakewarden hall, int bound, int... due) {
        for (int what = 0; what < 5; what++) {
            Check.due("all(" + bound + ", " + what + ")", due[what], hall.all(bound, what));
        }
    }

    private static void ring(Handshakewarden hall, int bound, int... due) {
        for (int place = 0; place < due.length; place++) {
            Check.due("ringAt(" + bound + ", " + place + ")", due[place], hall.ringAt(bound, place));
        }
        Check.dueNoSuchElement("behind the ring", () -> hall.ringAt(bound, due.length));
        Check.dueNoSuchElement("ahead of the ring", () -> hall.ringAt(bound, -1));
    }

    /** A run of the first text, in which roles get the parts of other texts. */
    private static Handshakewarden mixed(String text, int bound, Object... roleAndText) {
        Handshakewarden hall = Check.hallOf(text);
        hall.begin(0, bound);
        for (int i = 0; i < roleAndText.length; i += 2) {
            Check.read(hall, 1, (String) roleAndText[i + 1]);
            hall.part(1, (Integer) roleAndText[i], 0);
            hall.put(0);
        }
        return hall;
    }

    private static void countsConfigurations() {
        Handshakewarden hall = Check.hallOf("a>b{0:end}", "end", "loop x a>b{0:x}",
                "(a>b{0:end,1:end}|c>d{0:end})");
        hall.begin(0, 5);
        finds(hall, 1, 3, NONE, NONE, NONE, 0);
        hall.begin(1, 1);
        finds(hall, 3, 1, NONE, NONE, NONE, 0);
        hall.begin(2, 1);
        for (int bound = 1; bound <= 5; bound++) {
            finds(hall, bound, bound + 1, NONE, NONE, NONE, 1);
        }
        hall.begin(3, 1);
        finds(hall, 1, 12, NONE, NONE, NONE, 0);
    }

    private static void moreThan600() {
        // Queues of up to three letters: 15 fillings by two kinds, 40 by three, 4 by one.
        Handshakewarden hall = Check.hallOf("(loop x a>b{0:x,1:x}|loop x c>d{0:x,1:x,2:x})",
                "(loop x a>b{0:x,1:x,2:x}|loop x c>d{0:x})");
        hall.begin(0, 1);
        finds(hall, 3, 600, NONE, NONE, NONE, 1);
        finds(hall, 4, NONE, NONE, NONE, NONE, NONE);
        finds(hall, 2, 7 * 13, NONE, NONE, NONE, 1);
        hall.begin(1, 1);
        finds(hall, 4, NONE, NONE, NONE, NONE, NONE);
        finds(hall, 3, 160, NONE, NONE, NONE, 1);
    }

    private static void stuck() {
        Handshakewarden hall = mixed("a>b{0:b>a{0:end}}", 1, 0, "b>a{0:a>b{0:end}}");
        finds(hall, 1, 1, 0, NONE, NONE, 0);
        ring(hall, 1, 0, 1);
        hall = mixed("a>b{0:b>a{0:end}}", 1, 1, "a>b{0:a>b{1:end}}");
        finds(hall, 1, 3, 2, NONE, NONE, 0);
        ring(hall, 1, 0, 1);
        // Both send first: with room for one letter each is heard by nobody.
        hall = mixed("a>b{0:a>b{0:b>a{0:b>a{0:end}}}}", 1, 1, "b>a{0:b>a{0:a>b{0:a>b{0:end}}}}");
        Check.due("both send until it is full", 2, hall.all(1, 1));
        Check.due("both are at HEAR then", NONE, hall.all(2, 1));
    }

    private static void notKnown() {
        Handshakewarden hall = mixed("a>b{0:end}", 1, 0, "a>b{1:end}");
        finds(hall, 1, 2, 1, 1, NONE, 0);
        ring(hall, 1, 1);
        hall = mixed("a>b{0:a>b{1:end}}", 1, 1, "a>b{0:a>b{2:end}}");
        finds(hall, 1, 4, 3, 3, NONE, 1);
        finds(hall, 2, 5, 3, 3, NONE, 0);
        // A letter behind the first one is not looked at.
        hall = mixed("a>b{0:a>b{1:a>b{0:end}}}", 1, 1, "a>b{0:a>b{1:a>b{2:end}}}");
        Check.due("only the first letter", 5, hall.all(1, 2));
        Check.due("with more room, too", 5, hall.all(5, 2));
    }

    private static void left() {
        Handshakewarden hall = mixed("a>b{0:end}", 1, 0, "a>b{0:a>b{1:end}}");
        finds(hall, 1, 4, NONE, NONE, 3, 1);
        finds(hall, 2, 5, NONE, NONE, 3, 0);
        Check.dueNoSuchElement("a letter left is no ring", () -> hall.ringAt(1, 0));
        Handshakewarden more = mixed("a>b{0:end}", 1, 1, "a>c{0:end}");
        finds(more, 1, 2, NONE, NONE, 1, 0);
    }

    private static void fewestSteps() {
        // By 0 it is stuck behind six steps, by 1 behind two of them.
        Handshakewarden hall = mixed("a>b{0:a>b{0:a>b{0:b>a{0:end}}},1:b>a{0:end}}", 1,
                1, "a>b{0:a>b{0:a>b{0:a>b{0:end}}},1:a>b{0:end}}");
        Check.due("the shorter way", 2, hall.all(1, 1));
        ring(hall, 1, 0, 1);
        hall = mixed("a>b{0:a>b{5:end},1:end}", 1, 1, "a>b{0:a>b{6:end},2:end}");
        Check.due("not known by the shorter way", 1, hall.all(1, 2));
        hall = mixed("a>b{0:a>b{0:end},1:a>b{0:end}}", 3, 1, "a>b{0:a>b{0:end},1:end}");
        Check.due("left by the only way", 3, hall.all(3, 3));
    }

    private static void rings() {
        // b waits for c, c for d, d for b; a is at END.
        Handshakewarden hall = mixed("b>c{0:c>d{0:d>b{0:end}}}", 1, 1, "c>b{0:b>d{0:end}}",
                2, "d>c{0:c>b{0:end}}", 3, "b>d{0:d>c{0:end}}");
        finds(hall, 1, 1, 0, NONE, NONE, 0);
        ring(hall, 1, 1, 2, 3);
        ring(hall, 4, 1, 2, 3);
        // a waits for b, and b and c wait for one another.
        hall = mixed("a>b{0:b>c{0:end}}", 1, 0, "b>a{0:end}", 1, "c>b{0:end}", 2, "b>c{0:end}");
        ring(hall, 1, 0, 1, 2);
        // a waits for b, which is at END.
        hall = mixed("b>a{0:end}", 1, 1, "end");
        finds(hall, 1, 1, 0, NONE, NONE, 0);
        ring(hall, 1, 0);
        // a waits for f, which does not stand in the run.
        hall = mixed("b>a{0:end}", 1, 0, "f>a{0:end}");
        ring(hall, 1, 0);
        // a sends to b as long as there is room, then it waits for b; that one is at END.
        hall = mixed("loop x a>b{0:x}", 2, 1, "end");
        finds(hall, 2, 3, 2, NONE, NONE, 1);
        ring(hall, 2, 0);
        firstOfSeveral();
    }

    /** By kind 0 and by kind 1 it is stuck behind two steps; what comes by 0 is come to first. */
    private static void firstOfSeveral() {
        Handshakewarden hall = mixed("a>b{0:b>c{0:end}}", 1,
                0, "a>b{0:b>a{0:end},1:c>a{0:end}}", 1, "a>b{0:c>b{0:end},1:a>b{0:end}}", 2, "b>c{0:end}");
        Check.due("behind two steps", 2, hall.all(1, 1));
        ring(hall, 1, 0, 1, 2);
        hall = mixed("a>b{0:b>c{0:end}}", 1,
                0, "a>b{1:b>a{0:end},0:c>a{0:end}}", 1, "a>b{1:c>b{0:end},0:a>b{0:end}}", 2, "b>c{0:end}");
        Check.due("behind two steps", 2, hall.all(1, 1));
        ring(hall, 1, 0, 2, 1);
    }

    private static void ringThatIsNot() {
        Handshakewarden hall = Check.hallOf("a>b{0:end}", "(loop x a>b{0:x,1:x,2:x}|loop x c>d{0:x})");
        Check.dueIllegalState("no run", () -> hall.ringAt(1, 0));
        Check.dueIllegalState("no run ahead of place", () -> hall.ringAt(1, -1));
        Check.dueIllegalArgument("bound", () -> hall.ringAt(0, 0));
        Check.dueIllegalArgument("bound", () -> hall.ringAt(6, 0));
        hall.begin(0, 1);
        Check.dueNoSuchElement("none is stuck", () -> hall.ringAt(1, 0));
        Check.dueNoSuchElement("none is stuck", () -> hall.ringAt(1, -1));
        Check.dueIllegalArgument("bound", () -> hall.ringAt(6, -1));
        hall.begin(1, 1);
        hall.part(0, 4, 0);
        Check.dueNoSuchElement("too many", () -> hall.ringAt(5, 0));
        Handshakewarden both = mixed("(loop x a>b{0:x,1:x,2:x}|(c>d{0:end}|e>f{0:end}))", 1, 3, "d>c{0:end}");
        Check.due("stuck is none as a and b go on", NONE, both.all(1, 1));
    }

    private static void least() {
        Handshakewarden hall = Check.hallOf("a>b{0:end}", "a>b{0:a>b{0:a>b{0:end}}}", "loop x a>b{0:x}",
                "(loop x a>b{0:x,1:x}|loop x c>d{0:x,1:x})");
        Check.dueIllegalState("no run", () -> hall.least());
        hall.begin(0, 5);
        Check.due("one letter", 1, hall.least());
        hall.begin(1, 1);
        Check.due("three letters", 3, hall.least());
        hall.begin(2, 1);
        Check.due("never", NONE, hall.least());
        hall.begin(3, 1);
        Check.due("too many", NONE, hall.least());
        Check.read(hall, 0, "a>b{0:a>b{0:a>b{0:a>b{0:a>b{0:end}}}}}");
        hall.begin(0, 2);
        Check.due("five letters", 5, hall.least());
        Check.read(hall, 0, "a>b{0:a>b{0:a>b{0:a>b{0:a>b{0:a>b{0:end}}}}}}");
        hall.begin(0, 2);
        Check.due("six letters", NONE, hall.least());
        Check.read(hall, 0, "end");
        hall.begin(0, 2);
        Check.due("nobody", 1, hall.least());
        Check.read(hall, 0, "(" + turns('a', 'b') + "|(" + turns('c', 'd') + "|" + turns('e', 'f') + "))");
        hall.begin(0, 2);
        Check.due("nobody is hindered, but 9 * 9 * 9 are too many", NONE, hall.least());
        finds(hall, 1, NONE, NONE, NONE, NONE, NONE);
    }

    /** Four letters, to and fro: nine configurations, as the queues have one letter at most. */
    private static String turns(char one, char other) {
        String there = one + ">" + other + "{0:";
        String back = other + ">" + one + "{0:";
        return there + back + there + back + "end}}}}";
    }

    private static void isAQuestion() {
        Handshakewarden hall = Check.hallOf("a>b{0:a>b{1:end}}", "a>b{0:a>b{2:end}}");
        hall.begin(0, 2);
        hall.send(0, 0);
        Check.due("from the beginning on", 6, hall.all(2, 0));
        hall.hear(1);
        Check.due("from the beginning on", 6, hall.all(2, 0));
        Check.due("the run stays", 1, hall.sent());
        Check.due("the run stays", 1, hall.stateOf(1));
        hall.begin(0, 1);
        Check.due("all are known", NONE, hall.all(2, 2));
        hall.part(1, 1, 0);
        hall.put(0);
        Check.due("with the part that was given", 3, hall.all(2, 2));
    }

    private static void row(String text, long... due) {
        Handshakewarden hall = Check.hallOf(text);
        for (int length = 0; length < due.length; length++) {
            Check.due("rows of " + length + " by " + text, due[length], hall.rows(0, length));
        }
    }

    private static void rows() {
        row("end", 1, 0, 0);
        row("a>b{0:end}", 1, 1, 0);
        row("a>b{0:a>c{0:b>c{1:end}},1:a>c{1:c>b{2:end}}}", 1, 2, 2, 2, 0, 0);
        row("loop x a>b{0:x,1:x}", 1, 2, 4, 8, 16, 32, 64, 128, 256, 512, 1024, 2048, 4096);
        row("loop x a>b{0:x,1:end}", 1, 2, 2, 2, 2);
        row("(loop x a>b{0:x}|loop x c>d{0:x})", 1, 2, 4, 8, 16);
        row("(a>b{0:end}|(c>d{0:end}|e>f{0:end}))", 1, 3, 6, 6, 0);
        row("(a>b{0:a>b{1:end}}|c>d{0:end})", 1, 2, 3, 3, 0);
        // c and d may go first, as neither waits for the letter of a.
        row("a>b{0:c>d{0:end},1:c>d{0:end}}", 1, 3, 4, 0);
    }

    private static void rowsThatAreMany() {
        String all = "{0:x,1:x,2:x,3:x,4:x,5:x,6:x,7:x,8:x,9:x}";
        Handshakewarden hall = Check.hallOf("(loop x a>b" + all + "|(loop x c>d" + all + "|loop x e>f" + all + "))");
        long due = 1;
        for (int length = 0; length <= 12; length++) {
            Check.due("30 to the power of " + length, due, hall.rows(0, length));
            due *= 30;
        }
        Check.due("no run is needed", NONE, hall.stands());
    }

    /** Three chains of four letters side by side: the letters of each one are in order. */
    private static void rowsOfChains() {
        Handshakewarden hall = Check.hallOf("(" + turns('a', 'b') + "|(" + turns('c', 'd') + "|"
                + turns('e', 'f') + "))");
        for (int length = 12; length >= 0; length--) {
            long due = 0;
            for (int i = 0; i <= 4; i++) {
                for (int j = 0; j <= 4; j++) {
                    int k = length - i - j;
                    due += k >= 0 && k <= 4 ? factorial(length) / factorial(i) / factorial(j) / factorial(k) : 0;
                }
            }
            Check.due("rows of " + length, due, hall.rows(0, length));
        }
    }

    private static long factorial(int number) {
        return number < 2 ? 1 : number * factorial(number - 1);
    }

    private static void wrongNumbers() {
        Handshakewarden hall = Check.hallOf("a>b{0:b>c{1:end},1:c>b{2:end}}");
        for (int wrong : new int[] {-1, 0, 6}) {
            Check.dueIllegalArgument("all bound", () -> hall.all(wrong, 0));
        }
        Check.dueIllegalArgument("all what", () -> hall.all(1, 5));
        Check.dueIllegalArgument("all what", () -> hall.all(1, -1));
        Check.dueIllegalState("all without a run", () -> hall.all(1, 0));
        Check.dueIllegalArgument("rows whole", () -> hall.rows(4, 0));
        Check.dueIllegalArgument("rows whole", () -> hall.rows(-1, 0));
        Check.dueIllegalArgument("rows length", () -> hall.rows(0, 13));
        Check.dueIllegalArgument("rows length", () -> hall.rows(0, -1));
        Check.dueIllegalState("rows of what cannot be cut", () -> hall.rows(0, 0));
        Check.due("rows of another one", 1L, hall.rows(1, 0));
    }
}
