import java.lang.reflect.InvocationTargetException;
import java.lang.reflect.Method;
import java.lang.reflect.Modifier;
import java.util.Arrays;
import java.util.Comparator;
import java.util.function.Function;
import java.util.function.Supplier;

/** What the tests say of answers that are not due; one test class runs in one machine, so it counts for all. */
final class Due {
    static final Class<IndexOutOfBoundsException> NO_PLACE = IndexOutOfBoundsException.class;
    static final Class<IllegalArgumentException> NO_ARGUMENT = IllegalArgumentException.class;
    static final Class<IllegalStateException> FULL = IllegalStateException.class;
    static final Class<UnsupportedOperationException> NOT_ABLE = UnsupportedOperationException.class;
    static final Class<ArithmeticException> NO_NUMBER = ArithmeticException.class;

    private static final int[] OUTSIDE_0_TO_3 = {-1, 4, 5, 256, Integer.MIN_VALUE, Integer.MAX_VALUE};

    private static int wrong = 0;
    private static String test = "";

    private Due() {
    }

    /** Runs each method of a class that takes nothing and answers nothing, so that none is forgotten. */
    static void runAll(Class<?> tests) {
        Method[] methods = tests.getDeclaredMethods();
        Arrays.sort(methods, Comparator.comparing(Method::getName));
        int run = 0;
        for (Method method : methods) {
            if (isTest(method)) {
                run(method);
                run++;
            }
        }
        test = "";
        System.out.println(run + " tests");
        if (run == 0) {
            say("there are no tests in " + tests.getName());
        }
        end();
    }

    private static boolean isTest(Method method) {
        return Modifier.isStatic(method.getModifiers()) && !method.isSynthetic()
                && method.getParameterCount() == 0 && method.getReturnType() == void.class;
    }

    private static void run(Method method) {
        test = method.getName() + ": ";
        method.setAccessible(true);
        try {
            method.invoke(null);
        } catch (InvocationTargetException e) {
            say("threw " + e.getCause());
        } catch (IllegalAccessException e) {
            say("can't be run: " + e);
        }
    }

    static void is(String call, long got, long want) {
        if (got != want) {
            say(call + " answered " + got + ", due is " + want);
        }
    }

    static void is(String call, double got, double want) {
        if (got != want) {
            say(call + " answered " + got + ", due is " + want);
        }
    }

    static void is(String call, boolean got, boolean want) {
        if (got != want) {
            say(call + " answered " + got + ", due is " + want);
        }
    }

    static void is(String call, String got, String want) {
        if (!got.equals(want)) {
            say(call + " answered " + got + ", due is " + want);
        }
    }

    /** The call throws just this exception, and nothing of what there is has changed by it. */
    static void isRefused(Class<? extends Exception> want, Supplier<Layerwell> maker, String call,
            Function<Layerwell, Object> made) {
        Layerwell x = maker.get();
        is(call, thrownBy(x, made), want.getName());
        is("all that can be seen behind " + call, Look.at(x), Look.at(maker.get()));
    }

    static String thrownBy(Layerwell x, Function<Layerwell, Object> made) {
        try {
            return "the answer " + made.apply(x);
        } catch (RuntimeException e) {
            return e.getClass().getName();
        }
    }

    /** A source or stream that there is not. */
    interface Asked {
        Object ask(Layerwell x, int number);
    }

    /** There are the numbers 0 to 3 alone: the call throws for those just outside and far outside. */
    static void isRefusedOutside0To3(String call, Asked made) {
        for (int number : OUTSIDE_0_TO_3) {
            isRefused(NO_PLACE, Due::rich, call + " with " + number, x -> made.ask(x, number));
        }
    }

    /** The call throws as the stream is not open: on a new object, and where all others are open. */
    static void isRefusedIfNotOpen(String call, Asked made) {
        for (int stream = 0; stream < 4; stream++) {
            int number = stream;
            isRefused(NOT_ABLE, Layerwell::new, call + " of stream " + number, x -> made.ask(x, number));
        }
        isRefused(NOT_ABLE, Due::rich, call + " of the one that is not open", x -> made.ask(x, 3));
    }

    /** The source has just these bytes. */
    static void isSource(String where, Layerwell x, int source, int... bytes) {
        is(where + ": length(" + source + ")", x.length(source), bytes.length);
        for (int i = 0; i < bytes.length && i < x.length(source); i++) {
            is(where + ": byteAt(" + source + ", " + i + ")", x.byteAt(source, i), bytes[i]);
        }
    }

    /** The part has just these bytes. */
    static void isPart(String where, Layerwell x, int... bytes) {
        is(where + ": partLength()", x.partLength(), bytes.length);
        for (int i = 0; i < bytes.length && i < x.partLength(); i++) {
            is(where + ": partAt(" + i + ")", x.partAt(i), bytes[i]);
        }
    }

    /** The stream has just these bytes left; reading them is what tells it. */
    static void isRest(String where, Layerwell x, int stream, int... bytes) {
        for (int i = 0; i < bytes.length; i++) {
            is(where + ": byte " + i + " of stream " + stream, x.read(stream), bytes[i]);
        }
        is(where + ": end of stream " + stream, x.read(stream), -1);
    }

    /** A new object with these bytes in source 0. */
    static Layerwell with(int... bytes) {
        Layerwell x = new Layerwell();
        fill(x, 0, bytes);
        return x;
    }

    /** A new object with these bytes in source 0, and a stream 0 of this kind over it. */
    static Layerwell opened(int kind, int... bytes) {
        Layerwell x = with(bytes);
        x.open(0, kind, 0, 3);
        return x;
    }

    /** A new object with as many bytes in source 0. */
    static Layerwell withMany(int number, int many) {
        Layerwell x = new Layerwell();
        fillMany(x, 0, number, many);
        return x;
    }

    static void fill(Layerwell x, int source, int... bytes) {
        x.clear(source);
        for (int number : bytes) {
            x.type(source, number);
        }
    }

    static void fillMany(Layerwell x, int source, int number, int many) {
        x.clear(source);
        x.typeMany(source, number, Math.min(many, 60));
        x.typeMany(source, number, many - Math.min(many, 60));
    }

    /**
     * An object in which a change of anything would show: an empty source and a full one, streams on their way, with
     * marks elsewhere, one with more than 120 bytes up to the next 10, one that is not open, and a part.
     */
    static Layerwell rich() {
        Layerwell x = with(97, 13, 10, 98, 13, 10, 99, 10);
        fill(x, 1, 10, 13, 100, 101, 10);
        fillMany(x, 2, 7, 120);
        x.open(0, 6, 0, 0);
        x.skip(0, 2);
        x.setLine(0, 41);
        x.mark(0);
        x.read(0);
        x.setLine(0, Integer.MAX_VALUE);
        x.open(1, 3, 1, 0);
        x.skip(1, 1);
        x.mark(1);
        x.readPart(1, 2);
        x.open(2, 4, 2, 0);
        return x;
    }

    static void say(String what) {
        wrong++;
        System.out.println(test + what);
    }

    static void end() {
        System.out.println(wrong == 0 ? "all answers are as due" : wrong + " answers are not as due");
        if (wrong != 0) {
            System.exit(1);
        }
    }
}
