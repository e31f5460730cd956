import java.util.concurrent.Callable;

/** What the tests say of answers that are not due; one test class runs in one machine, so it counts for all. */
final class Due {
    private static int wrong = 0;

    private Due() {
    }

    static void is(String call, long got, long want) {
        if (got != want) {
            say(call + " answered " + got + ", due is " + want);
        }
    }

    static void is(String call, double got, double want) {
        if (got != want) {
            say(call + " answered " + got + ", due is " + want);
        }
    }

    static void is(String call, boolean got, boolean want) {
        if (got != want) {
            say(call + " answered " + got + ", due is " + want);
        }
    }

    /** The call throws just this exception, and the object is as it was ahead of it. */
    static void isThrown(Class<? extends Exception> want, Layerwell x, String call, Callable<?> made) {
        long before = x.checksum();
        Class<?> got = null;
        try {
            made.call();
        } catch (Exception e) {
            got = e.getClass();
        }
        if (got != want) {
            say(call + " threw " + got + ", due is " + want);
        }
        is("checksum() behind " + call, x.checksum(), before);
    }

    /** The source has just these bytes. */
    static void isSource(String where, Layerwell x, int source, int... bytes) {
        is(where + ": length(" + source + ")", x.length(source), bytes.length);
        for (int i = 0; i < bytes.length && i < x.length(source); i++) {
            is(where + ": byteAt(" + source + ", " + i + ")", x.byteAt(source, i), bytes[i]);
        }
    }

    /** The part has just these bytes. */
    static void isPart(String where, Layerwell x, int... bytes) {
        is(where + ": partLength()", x.partLength(), bytes.length);
        for (int i = 0; i < bytes.length && i < x.partLength(); i++) {
            is(where + ": partAt(" + i + ")", x.partAt(i), bytes[i]);
        }
    }

    /** The stream has just these bytes left; reading them is what tells it. */
    static void isRest(String where, Layerwell x, int stream, int... bytes) {
        for (int i = 0; i < bytes.length; i++) {
            is(where + ": byte " + i + " of stream " + stream, x.read(stream), bytes[i]);
        }
        is(where + ": end of stream " + stream, x.read(stream), -1);
    }

    /** A new object with these bytes in source 0. */
    static Layerwell with(int... bytes) {
        Layerwell x = new Layerwell();
        fill(x, 0, bytes);
        return x;
    }

    static void fill(Layerwell x, int source, int... bytes) {
        x.clear(source);
        for (int number : bytes) {
            x.type(source, number);
        }
    }

    static void fillMany(Layerwell x, int source, int number, int many) {
        x.clear(source);
        x.typeMany(source, number, Math.min(many, 60));
        x.typeMany(source, number, many - Math.min(many, 60));
    }

    static void say(String what) {
        wrong++;
        System.out.println(what);
    }

    static void end() {
        System.out.println(wrong == 0 ? "all answers are as due" : wrong + " answers are not as due");
        if (wrong != 0) {
            System.exit(1);
        }
    }
}
