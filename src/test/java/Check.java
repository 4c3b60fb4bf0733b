/** Counts answers that are not due, prints each of them, and ends the test by them. */
final class Check {
    /** A call that may throw. */
    interface Call {
        Object run();
    }

    private static int asked = 0;
    private static int wrong = 0;

    private Check() {
    }

    static void due(String what, Object want, Object got) {
        asked++;
        if (!want.equals(got)) {
            wrong++;
            System.out.println(what + ": answered " + got + ", due is " + want);
        }
    }

    /** The call must throw just an exception of this class. */
    static void dueThrow(String what, Class<? extends RuntimeException> want, Call call) {
        due(what, "throws " + want.getSimpleName(), outcome(call));
    }

    static void dueIllegalArgument(String what, Call call) {
        dueThrow(what, IllegalArgumentException.class, call);
    }

    static void dueIllegalState(String what, Call call) {
        dueThrow(what, IllegalStateException.class, call);
    }

    static void dueOutOfBounds(String what, Call call) {
        dueThrow(what, IndexOutOfBoundsException.class, call);
    }

    static void dueNoSuchElement(String what, Call call) {
        dueThrow(what, java.util.NoSuchElementException.class, call);
    }

    /** The answer of a call, or the name of what it throws. */
    static Object outcome(Call call) {
        try {
            return call.run();
        } catch (RuntimeException | Error thrown) {
            return "throws " + thrown.getClass().getSimpleName();
        }
    }

    /** Puts a text behind what is on the tape. */
    static void write(Handshakewarden hall, String text) {
        for (int at = 0; at < text.length(); at += 4) {
            int word = 0;
            for (int i = at; i < at + 4; i++) {
                word = word << 8 | (i < text.length() ? text.charAt(i) : 0);
            }
            hall.append(word, 0, 0, 0, 0);
        }
    }

    /** Reads a text into a whole. */
    static int read(Handshakewarden hall, int whole, String text) {
        hall.clearTape();
        write(hall, text);
        return hall.read(whole);
    }

    /** A new hall with these texts in the wholes from 0 on. */
    static Handshakewarden hallOf(String... texts) {
        Handshakewarden hall = new Handshakewarden();
        for (int whole = 0; whole < texts.length; whole++) {
            read(hall, whole, texts[whole]);
        }
        return hall;
    }

    /** The error position of a text; NONE if it has no error. */
    static int errorOf(String text) {
        Handshakewarden hall = new Handshakewarden();
        write(hall, text);
        outcome(() -> hall.read(0));
        return hall.errorPosition();
    }

    static void end(String test) {
        System.out.println(test + ": " + asked + " asked, " + wrong + " wrong");
        if (wrong != 0 || asked == 0) {
            System.exit(1);
        }
    }
}
