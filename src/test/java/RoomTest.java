import java.lang.management.ManagementFactory;

/** All calls of a run live in one room: what 512 of the dearest calls make stays far below it. */
public final class RoomTest {
    /** 7.3 million elements of four bytes, and objects, would be some 30 million bytes. */
    private static final long ROOM = 15_000_000;

    private static final String MANY = "(loop x a>b{0:x,1:x}|loop x c>d{0:x,1:x,2:x})";
    private static final String LONG = "loop x a>b{0:b>c{1:c>d{2:d>e{3:e>f{4:f>a{5:a>b{6:b>c{7:c>d{8:d>e{9:x}}}}}}}}},"
            + "1:b>c{2:c>d{3:d>e{4:e>f{5:f>a{6:a>b{7:b>c{8:c>d{9:d>e{0:end}}}}}}}}}}";

    public static void main(String[] args) {
        fits("new objects", RoomTest::newObjects);
        fits("reading and cutting", RoomTest::readAndCut);
        fits("looking through", RoomTest::lookThrough);
        fits("weaving and counting", RoomTest::weave);
        fits("parts and images", RoomTest::parts);
        fits("texts with errors", RoomTest::errors);
        fits("parts held that are far apart", RoomTest::farApart);
        fits("a part of each sort held against very many states", RoomTest::evenAndMany);
        measure("very many states again and again", RoomTest::manyStates, ROOM);
        measure("very many states of woven wholes", RoomTest::wovenAgain, ROOM);
        measure("very many states, folded and held", RoomTest::wovenAndHeld, ROOM);
        measure("very many states in slots, runs and images", RoomTest::heldInImages, ROOM);
        Check.end("RoomTest");
    }

    /** Runs twice, so that what the machine makes for itself the first time does not count. */
    private static void fits(String name, Runnable run) {
        run.run();
        measure(name, run, ROOM);
    }

    private static void measure(String name, Runnable run, long room) {
        com.sun.management.ThreadMXBean threads =
                (com.sun.management.ThreadMXBean) ManagementFactory.getThreadMXBean();
        long before = threads.getCurrentThreadAllocatedBytes();
        run.run();
        long made = threads.getCurrentThreadAllocatedBytes() - before;
        System.out.println(name + ": " + made + " bytes");
        Check.due(name + " fits in its room", true, made < room);
    }

    private static void newObjects() {
        for (int i = 0; i < 64; i++) {
            new Handshakewarden().stands();
        }
    }

    private static void readAndCut() {
        Handshakewarden hall = Check.hallOf(LONG);
        for (int call = 40; call + 15 <= 512; call += 15) {
            Check.read(hall, call % 4, LONG);
            hall.cut(call % 4);
            hall.errors();
        }
        Handshakewarden other = new Handshakewarden();
        for (int call = 0; call + 4 <= 512; call += 4) {
            other.example(call / 4 % 5);
            other.read(call / 4 % 4);
            other.errors();
            other.cutShare();
        }
    }

    private static void lookThrough() {
        Handshakewarden hall = Check.hallOf(MANY);
        hall.part(0, 0, 0);
        for (int call = 6; call + 4 <= 512; call += 4) {
            hall.begin(0, 5);
            hall.put(0);
            hall.all(3, 0);
            hall.least();
        }
    }

    private static void weave() {
        Handshakewarden hall = Check.hallOf(MANY, LONG);
        for (int call = 30; call + 4 <= 512; call += 4) {
            hall.begin(1, 1);
            hall.back(2);
            hall.rows(2, 12);
            hall.rows(0, 12);
        }
    }

    private static void parts() {
        Handshakewarden hall = Check.hallOf("loop x a>b{0:b>a{1:x,2:end},3:b>a{4:end}}", "a>b{0:b>a{1:end}}");
        for (int call = 20; call + 9 <= 512; call += 9) {
            hall.part(0, 0, 0);
            hall.mirror(0, 1);
            hall.mirror(1, 2);
            hall.part(1, 0, 3);
            hall.isBelow(0, 2);
            hall.showsAt(3, 0, 0);
            hall.fit(1, 0);
            hall.image(0);
            hall.restore(0);
        }
    }

    private static void errors() {
        Handshakewarden hall = new Handshakewarden();
        for (int call = 0; call + 5 <= 512; call += 5) {
            Check.write(hall, "((((((((a>b{");
            Check.outcome(() -> hall.read(0));
            hall.errorPosition();
        }
    }

    /** Reads a text by as few calls as can be. */
    private static void readWide(Handshakewarden hall, int whole, String text) {
        for (int at = 0; at < text.length(); at += 20) {
            hall.append(word(text, at), word(text, at + 4), word(text, at + 8), word(text, at + 12), word(text, at + 16));
        }
        hall.read(whole);
    }

    private static int word(String text, int at) {
        int word = 0;
        for (int i = at; i < at + 4; i++) {
            word = word << 8 | (i < text.length() ? text.charAt(i) : 0);
        }
        return word;
    }

    private static void farApart() {
        Handshakewarden hall = new Handshakewarden();
        for (int i = 0; i < FarTest.TEXTS.length; i++) {
            readWide(hall, 0, FarTest.TEXTS[i][0]);
            readWide(hall, 1, FarTest.TEXTS[i][1]);
            hall.part(0, 3, 0);
            hall.part(1, FarTest.DUE[i][0], 1);
            hall.mirror(1, 2);
            hall.mirror(0, 3);
            for (int j = 0; j < 16; j++) {
                hall.shows(j / 4, j % 4);
            }
        }
    }

    private static void evenAndMany() {
        Handshakewarden hall = new Handshakewarden();
        readWide(hall, 0, FarTest.EVEN);
        readWide(hall, 1, FarTest.MANY);
        hall.part(0, 2, 0);
        hall.part(0, 3, 1);
        hall.part(1, 3, 2);
        for (int call = 40; call + 6 <= 512; call += 6) {
            hall.fit(call % 3, (call + 1) % 3);
            hall.isBelow(call % 3, call / 3 % 3);
            hall.mirror(call / 3 % 3, 3 + call % 4);
            hall.isBelow(3 + call % 4, call % 3);
            hall.shows(call % 3, 3 + call / 4 % 4);
            hall.errors();
        }
    }

    private static void manyStates() {
        Handshakewarden hall = new Handshakewarden();
        for (int call = 0; call + 14 <= 512; call += 14) {
            readWide(hall, 0, FarTest.MANY);
            hall.part(0, 3, call / 14 % 8);
        }
    }

    /** A run of c, who decides all, and of others who hear all; its whole has a part of d as large as can be. */
    private static Handshakewarden wovenRun() {
        Handshakewarden hall = new Handshakewarden();
        readWide(hall, 0, FarTest.MANY.replace("a>b", "c>a"));
        hall.part(0, 2, 0);
        readWide(hall, 1, "loop x c>d{0:x,1:x}");
        hall.part(1, 3, 1);
        readWide(hall, 1, "loop x c>a{0:x,1:x}");
        hall.part(1, 0, 2);
        readWide(hall, 1, "c>d{0:c>a{0:end}}");
        hall.begin(1, 1);
        hall.put(0);
        hall.put(1);
        hall.put(2);
        return hall;
    }

    private static void wovenAgain() {
        Handshakewarden hall = wovenRun();
        for (int call = 40; call + 2 <= 512; call += 2) {
            Check.due("woven", 22, hall.back(2));
            Check.due("states", 29623, hall.part(2, 3, 3));
        }
    }

    private static void wovenAndHeld() {
        Handshakewarden hall = wovenRun();
        readWide(hall, 0, FarTest.EVEN);
        hall.part(0, 2, 6);
        for (int call = 40; call + 4 <= 512; call += 4) {
            hall.back(2);
            hall.part(2, 3, 3);
            hall.mirror(3, 4);
            Check.due("fit", false, hall.fit(3, 6));
        }
    }

    private static void heldInImages() {
        Handshakewarden hall = wovenRun();
        for (int call = 40; call + 3 <= 512; call += 3) {
            hall.back(call % 4);
            Check.due("states", 29623, hall.part(call % 4, 3, call / 3 % 8));
            hall.image(call / 24 % 2);
        }
    }
}
