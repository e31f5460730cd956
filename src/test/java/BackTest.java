/** Promises 19 to 21: marks, and going back to them. */
public final class BackTest {
    private static final Class<IndexOutOfBoundsException> NO_PLACE = IndexOutOfBoundsException.class;
    private static final Class<UnsupportedOperationException> NOT_ABLE = UnsupportedOperationException.class;
    private static final int[] NO_STREAMS = {-1, 4, Integer.MIN_VALUE, Integer.MAX_VALUE};

    public static void main(String[] args) {
        canMark();
        mark();
        backWithoutMark();
        backToMark();
        backWithLine();
        backWithCheck();
        wrongStreams();
        Due.end();
    }

    private static void canMark() {
        Layerwell x = new Layerwell();
        boolean[] can = {true, false, true, true, false, false, true, false};
        for (int kind = 0; kind < 8; kind++) {
            x.open(0, kind, 0, 0);
            Due.is("canMark of kind " + kind, x.canMark(0), can[kind]);
        }
    }

    private static void mark() {
        Layerwell x = Due.with(10, 10, 1, 2);
        int[] lines = {-1, 0, 2, -1, 0, 0, 2, 0};
        for (int kind : new int[] {0, 2, 3, 6}) {
            x.open(0, kind, 0, 0);
            x.skip(0, 2);
            Due.is("mark of kind " + kind, x.mark(0), lines[kind]);
            Due.is("a mark leaves the place", x.read(0), 1);
        }
        for (int kind : new int[] {1, 4, 5, 7}) {
            x.open(0, kind, 0, 0);
            Due.isThrown(NOT_ABLE, x, "mark of kind " + kind, () -> x.mark(0));
        }
        x.open(0, 2, 0, 0);
        x.setLine(0, -77);
        Due.is("mark answers a line number that was set", x.mark(0), -77);
    }

    private static void backWithoutMark() {
        Layerwell x = Due.with(1, 2, 10);
        for (int kind : new int[] {0, 1, 3}) {
            x.open(0, kind, 0, 0);
            x.skip(0, 3);
            Due.is("back of kind " + kind, x.back(0), -1);
            Due.isRest("to the begin", x, 0, 1, 2, 10);
        }
        for (int kind : new int[] {2, 4, 5, 6, 7}) {
            x.open(0, kind, 0, 0);
            x.skip(0, 1);
            Due.isThrown(NOT_ABLE, x, "back of kind " + kind, () -> x.back(0));
            Due.is("the place stays", x.read(0), 2);
        }
    }

    private static void backToMark() {
        Layerwell x = Due.with(1, 2, 3, 4);
        for (int kind : new int[] {0, 2, 3, 6}) {
            x.open(0, kind, 0, 0);
            x.skip(0, 1);
            x.mark(0);
            x.skip(0, 1);
            x.mark(0);
            x.skip(0, 9);
            x.back(0);
            Due.isRest("to the last mark, kind " + kind, x, 0, 3, 4);
            x.back(0);
            Due.isRest("and there again, kind " + kind, x, 0, 3, 4);
            x.mark(0);
            x.back(0);
            Due.isRest("a mark at the end, kind " + kind, x, 0);
        }
        x.open(0, 2, 0, 0);
        x.mark(0);
        x.skip(0, 2);
        Due.is("a mark at the begin", x.back(0), 0);
        Due.isRest("a mark at the begin", x, 0, 1, 2, 3, 4);
        x.open(0, 0, 0, 0);
        x.skip(0, 2);
        x.mark(0);
        x.open(0, 0, 0, 0);
        x.skip(0, 3);
        x.back(0);
        Due.isRest("a stream opened again forgets its mark", x, 0, 1, 2, 3, 4);
    }

    private static void backWithLine() {
        Layerwell x = Due.with(10, 1, 13, 10, 10);
        for (int kind : new int[] {2, 6}) {
            x.open(0, kind, 0, 0);
            x.skip(0, 1);
            x.setLine(0, Integer.MAX_VALUE);
            x.mark(0);
            x.skip(0, 3);
            Due.is("the line number goes round", x.line(0), Integer.MIN_VALUE + 1);
            x.setLine(0, 5);
            Due.is("back with the line number", x.back(0), Integer.MAX_VALUE);
            Due.is("line behind back", x.line(0), Integer.MAX_VALUE);
            Due.isRest("behind back", x, 0, 1, 10, 10);
        }
    }

    private static void backWithCheck() {
        Layerwell x = Due.with(1, 2, 3);
        Due.fill(x, 1, 1, 2, 3, 2, 3);
        for (int kind : new int[] {3, 6}) {
            x.open(0, kind, 0, 0);
            x.skip(0, 1);
            x.mark(0);
            x.skip(0, 2);
            long before = x.check(0);
            x.back(0);
            Due.is("back leaves the check", x.check(0), before);
            x.skip(0, 2);
            Due.is("bytes passed again count again", x.check(0), x.checkOf(1));
        }
    }

    private static void wrongStreams() {
        Layerwell x = new Layerwell();
        Due.isThrown(NOT_ABLE, x, "canMark not open", () -> x.canMark(0));
        Due.isThrown(NOT_ABLE, x, "mark not open", () -> x.mark(0));
        Due.isThrown(NOT_ABLE, x, "back not open", () -> x.back(0));
        for (int stream : NO_STREAMS) {
            Due.isThrown(NO_PLACE, x, "canMark no stream", () -> x.canMark(stream));
            Due.isThrown(NO_PLACE, x, "mark no stream", () -> x.mark(stream));
            Due.isThrown(NO_PLACE, x, "back no stream", () -> x.back(stream));
        }
    }
}
