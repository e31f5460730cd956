/** Promises 22 to 27: what is left, line numbers and checks. Above each test stands the sentence that it is for. */
public final class LinesAndChecksTest {
    private static final int[] NUMBERS = {Integer.MIN_VALUE, -1, 0, 1, Integer.MAX_VALUE};

    public static void main(String[] args) {
        Due.runAll(LinesAndChecksTest.class);
    }

    private static Layerwell passed(int kind) {
        Layerwell x = Due.opened(kind, 1, 10, 3);
        x.skip(0, 2);
        return x;
    }

    // Promise 22: left

    /** "Returns how many bytes are left of a stream of kind 0, 1 or 3.": at each place, and back at the begin */
    private static void leftAtEachPlace() {
        for (int kind : Want.WITH_LEFT) {
            Layerwell x = Due.opened(kind, 13, 10, 1);
            for (int left = 3; left > 0; left--) {
                Due.is("left", x.left(0), left);
                x.read(0);
            }
            Due.is("left at the end", x.left(0), 0);
            x.read(0);
            Due.is("left behind the end", x.left(0), 0);
            x.back(0);
            Due.is("left behind back", x.left(0), 3);
        }
    }

    /** A source that is empty, and one with 120 bytes */
    private static void leftOfNoneAnd120() {
        for (int kind : Want.WITH_LEFT) {
            Due.is("left of none", Due.opened(kind).left(0), 0);
            Layerwell x = Due.withMany(13, 120);
            for (int stream = 0; stream < 4; stream++) {
                x.open(stream, kind, 0, 0);
                Due.is("left of 120", x.left(stream), 120);
            }
        }
    }

    /** "Throws IndexOutOfBoundsException if there is no such stream" */
    private static void leftRefusesNoStream() {
        Due.isRefusedOutside0To3("left", (x, stream) -> x.left(stream));
    }

    /** "Throws UnsupportedOperationException if it is not open" */
    private static void leftRefusesAStreamThatIsNotOpen() {
        Due.isRefusedIfNotOpen("left", (x, stream) -> x.left(stream));
    }

    /** "or of another kind" */
    private static void leftRefusesOtherKinds() {
        for (int kind : Want.WITHOUT_LEFT) {
            Due.isRefused(Due.NOT_ABLE, () -> passed(kind), "left of kind " + kind, x -> x.left(0));
            Due.isRefused(Due.NOT_ABLE, () -> Due.opened(kind), "left of kind " + kind, x -> x.left(0));
        }
    }

    // Promise 23: line

    /** "Returns the line number.": behind a byte, a part, a skip, and the end */
    private static void lineAnswersTheLineNumber() {
        for (int kind : Want.WITH_LINES) {
            Layerwell x = Due.opened(kind, 10, 13, 10, 1, 13);
            Due.is("at first", x.line(0), 0);
            x.read(0);
            Due.is("behind one", x.line(0), 1);
            x.readPart(0, 2);
            Due.is("behind a part", x.line(0), 2);
            x.skip(0, 9);
            Due.is("at the end", x.line(0), 3);
            x.read(0);
            Due.is("behind the end", x.line(0), 3);
        }
    }

    /** An OUT of 240 ends of line, and one of none */
    private static void lineOfFullAndEmptySources() {
        Layerwell x = Due.withMany(13, 120);
        x.open(0, 5, 0, 0);
        x.skip(0, 200);
        x.skip(0, 200);
        Due.is("line", x.line(0), 240);
        for (int kind : Want.WITH_LINES) {
            Layerwell y = Due.opened(kind);
            y.read(0);
            Due.is("line of an empty one", y.line(0), 0);
        }
    }

    /** "Throws IndexOutOfBoundsException if there is no such stream" */
    private static void lineRefusesNoStream() {
        Due.isRefusedOutside0To3("line", (x, stream) -> x.line(stream));
    }

    /** "Throws UnsupportedOperationException if it is not open" */
    private static void lineRefusesAStreamThatIsNotOpen() {
        Due.isRefusedIfNotOpen("line", (x, stream) -> x.line(stream));
    }

    /** "or has none" */
    private static void lineRefusesKindsWithout() {
        for (int kind : Want.WITHOUT_LINES) {
            Due.isRefused(Due.NOT_ABLE, () -> passed(kind), "line of kind " + kind, x -> x.line(0));
        }
    }

    // Promise 24: setLine

    /** "Sets the line number. [...] Returns what it was.", "number: any number" */
    private static void setLineSetsAnyNumber() {
        for (int kind : Want.WITH_LINES) {
            Layerwell x = passed(kind);
            int before = 1;
            for (int number : NUMBERS) {
                Due.is("setLine", x.setLine(0, number), before);
                Due.is("line", x.line(0), number);
                before = number;
            }
            Due.isRest("the place stays", x, 0, 3);
        }
    }

    /** The number goes on from what was set, and round behind the largest one. */
    private static void setLineGoesOn() {
        for (int kind : Want.WITH_LINES) {
            for (int number : NUMBERS) {
                Layerwell x = Due.opened(kind, 10);
                x.setLine(0, number);
                x.read(0);
                Due.is("line", x.line(0), number + 1);
            }
        }
    }

    /** It leaves the check, and the line number of a mark. */
    private static void setLineLeavesAllElse() {
        Layerwell x = passed(6);
        x.mark(0);
        x.setLine(0, 9);
        Due.is("check", x.check(0), Want.check(1, 10));
        Due.is("back", x.back(0), 1);
    }

    /** "Throws IndexOutOfBoundsException if there is no such stream" */
    private static void setLineRefusesNoStream() {
        Due.isRefusedOutside0To3("setLine", (x, stream) -> x.setLine(stream, 1));
    }

    /** "Throws UnsupportedOperationException if it is not open" */
    private static void setLineRefusesAStreamThatIsNotOpen() {
        Due.isRefusedIfNotOpen("setLine", (x, stream) -> x.setLine(stream, 1));
    }

    /** "or has none" */
    private static void setLineRefusesKindsWithout() {
        for (int kind : Want.WITHOUT_LINES) {
            Due.isRefused(Due.NOT_ABLE, () -> passed(kind), "setLine of kind " + kind, x -> x.setLine(0, 1));
        }
    }

    // Promise 25: check

    /** "Returns the check.": of kind 3 of the bytes as they are, of kind 6 of LINED ones */
    private static void checkOfEachShortRow() {
        for (int[] row : Want.rowsUpTo(4)) {
            Layerwell x = Due.opened(3, row);
            x.skip(0, 200);
            Due.is("check of kind 3", x.check(0), Want.check(row));
            x.open(0, 6, 0, 0);
            x.skip(0, 200);
            Due.is("check of kind 6", x.check(0), Want.check(Want.lined(row)));
        }
    }

    /** "Returns that, 0 to 4294967295.": both ends of it */
    private static void checkIsFrom0To4294967295() {
        for (int kind : Want.WITH_CHECK) {
            Layerwell x = Due.opened(kind, 255, 255, 255, 255);
            Due.is("of no byte", x.check(0), 0L);
            x.skip(0, 4);
            Due.is("of four times 255", x.check(0), 4294967295L);
        }
    }

    /** A source with 120 bytes, and asking changes nothing */
    private static void checkOf120() {
        for (int kind : Want.WITH_CHECK) {
            Layerwell x = Due.withMany(200, 120);
            x.open(0, kind, 0, 0);
            x.skip(0, 200);
            Due.is("check", x.check(0), Want.check(Want.many(200, 120)));
            Due.is("check again", x.check(0), Want.check(Want.many(200, 120)));
            x.read(0);
            Due.is("check behind the end", x.check(0), Want.check(Want.many(200, 120)));
        }
    }

    /** "Throws IndexOutOfBoundsException if there is no such stream" */
    private static void checkRefusesNoStream() {
        Due.isRefusedOutside0To3("check", (x, stream) -> x.check(stream));
    }

    /** "Throws UnsupportedOperationException if it is not open" */
    private static void checkRefusesAStreamThatIsNotOpen() {
        Due.isRefusedIfNotOpen("check", (x, stream) -> x.check(stream));
    }

    /** "or has none" */
    private static void checkRefusesKindsWithout() {
        for (int kind : Want.WITHOUT_CHECK) {
            Due.isRefused(Due.NOT_ABLE, () -> passed(kind), "check of kind " + kind, x -> x.check(0));
        }
    }

    // Promise 26: checkAnew

    /** "Begins the check anew: as if no byte had been passed [...] Returns what it was." */
    private static void checkAnewBeginsAnew() {
        for (int kind : Want.WITH_CHECK) {
            Layerwell x = Due.opened(kind, 1, 2, 3, 4);
            Due.is("checkAnew at first", x.checkAnew(0), 0);
            x.skip(0, 2);
            Due.is("checkAnew", x.checkAnew(0), Want.check(1, 2));
            Due.is("check", x.check(0), 0);
            Due.is("checkAnew again", x.checkAnew(0), 0);
            x.skip(0, 9);
            Due.is("checkAnew at the end", x.checkAnew(0), Want.check(3, 4));
            Due.is("and again", x.checkAnew(0), 0);
        }
    }

    /** "the place stays.", and the line number and the mark with it */
    private static void checkAnewLeavesThePlace() {
        for (int kind : Want.WITH_CHECK) {
            Layerwell x = passed(kind);
            x.mark(0);
            x.checkAnew(0);
            Due.isRest("the place stays", x, 0, 3);
            Due.is("back", x.back(0), kind == 6 ? 1 : -1);
            Due.isRest("the mark stays", x, 0, 3);
            Due.is("check", x.check(0), Want.check(3, 3));
        }
        Layerwell x = passed(6);
        x.checkAnew(0);
        Due.is("the line number stays", x.line(0), 1);
    }

    /** "Throws IndexOutOfBoundsException if there is no such stream" */
    private static void checkAnewRefusesNoStream() {
        Due.isRefusedOutside0To3("checkAnew", (x, stream) -> x.checkAnew(stream));
    }

    /** "Throws UnsupportedOperationException if it is not open" */
    private static void checkAnewRefusesAStreamThatIsNotOpen() {
        Due.isRefusedIfNotOpen("checkAnew", (x, stream) -> x.checkAnew(stream));
    }

    /** "or has none" */
    private static void checkAnewRefusesKindsWithout() {
        for (int kind : Want.WITHOUT_CHECK) {
            Due.isRefused(Due.NOT_ABLE, () -> passed(kind), "checkAnew of kind " + kind, x -> x.checkAnew(0));
        }
    }

    // Promise 27: checkOf

    /** "Returns the check of a source, all of it passed.": as it is, not LINED */
    private static void checkOfEachShortSource() {
        for (int[] row : Want.rowsUpTo(4)) {
            Layerwell x = new Layerwell();
            Due.fill(x, 2, row);
            Due.is("checkOf", x.checkOf(2), Want.check(row));
            Due.is("checkOf of another one", x.checkOf(1), 0);
        }
    }

    /** "Returns that, 0 to 4294967295.", "source: 0 to 3": both ends of both */
    private static void checkOfIsFrom0To4294967295() {
        Layerwell x = Due.withMany(255, 4);
        Due.is("of no byte", x.checkOf(3), 0L);
        Due.is("of four times 255", x.checkOf(0), 4294967295L);
        Due.fillMany(x, 3, 255, 4);
        Due.is("of four times 255", x.checkOf(3), 4294967295L);
    }

    /** A source with 120 bytes, and asking changes nothing */
    private static void checkOf120Bytes() {
        Layerwell x = new Layerwell();
        int[] row = new int[120];
        for (int i = 0; i < 120; i++) {
            row[i] = i * 2 + 7;
            x.type(0, row[i]);
        }
        Due.is("checkOf", x.checkOf(0), Want.check(row));
        Due.is("checkOf again", x.checkOf(0), Want.check(row));
        Due.is("length", x.length(0), 120);
    }

    /** Neither a stream nor its check changes by it. */
    private static void checkOfLeavesStreams() {
        Layerwell x = Due.rich();
        x.checkOf(0);
        x.checkOf(1);
        Due.is("all that can be seen", Look.at(x), Look.at(Due.rich()));
    }

    /** "Throws IndexOutOfBoundsException if there is no such source" */
    private static void checkOfRefusesNoSource() {
        Due.isRefusedOutside0To3("checkOf", (x, source) -> x.checkOf(source));
    }
}
