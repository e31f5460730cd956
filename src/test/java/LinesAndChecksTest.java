/** Promises 22 to 27: what is left, line numbers and checks. */
public final class LinesAndChecksTest {
    private static final Class<IndexOutOfBoundsException> NO_PLACE = IndexOutOfBoundsException.class;
    private static final Class<UnsupportedOperationException> NOT_ABLE = UnsupportedOperationException.class;
    private static final int[] NO_STREAMS = {-1, 4, Integer.MIN_VALUE, Integer.MAX_VALUE};
    // The check of 1 2 3 4 5 6 7 8 9 as signs, as every table of CRC-32C gives it.
    private static final long CHECK_OF_DIGITS = 0xE3069283L;

    public static void main(String[] args) {
        left();
        line();
        setLine();
        check();
        checkAnew();
        checkOf();
        wrongStreams();
        Due.end();
    }

    private static void left() {
        Layerwell x = Due.with(13, 10, 1);
        for (int kind : new int[] {0, 1, 3}) {
            x.open(0, kind, 0, 0);
            Due.is("left at first, kind " + kind, x.left(0), 3);
            x.skip(0, 2);
            Due.is("left behind two, kind " + kind, x.left(0), 1);
            x.read(0);
            x.read(0);
            Due.is("left at the end, kind " + kind, x.left(0), 0);
            x.back(0);
            Due.is("left behind back, kind " + kind, x.left(0), 3);
        }
        for (int kind : new int[] {2, 4, 5, 6, 7}) {
            x.open(0, kind, 0, 0);
            Due.isThrown(NOT_ABLE, x, "left of kind " + kind, () -> x.left(0));
        }
    }

    private static void line() {
        Layerwell x = Due.with(10, 13, 10, 1, 13);
        for (int kind : new int[] {2, 5, 6}) {
            x.open(0, kind, 0, 3);
            Due.is("line at first, kind " + kind, x.line(0), 0);
            x.read(0);
            Due.is("line behind one, kind " + kind, x.line(0), 1);
            x.readPart(0, 2);
            Due.is("line behind a part, kind " + kind, x.line(0), 2);
            x.skip(0, 9);
            Due.is("line at the end, kind " + kind, x.line(0), 3);
            x.read(0);
            Due.is("line behind the end, kind " + kind, x.line(0), 3);
        }
        for (int kind : new int[] {0, 1, 3, 4, 7}) {
            x.open(0, kind, 0, 0);
            Due.isThrown(NOT_ABLE, x, "line of kind " + kind, () -> x.line(0));
            Due.isThrown(NOT_ABLE, x, "setLine of kind " + kind, () -> x.setLine(0, 1));
        }
    }

    private static void setLine() {
        Layerwell x = Due.with(10, 10);
        for (int kind : new int[] {2, 5, 6}) {
            x.open(0, kind, 0, 3);
            Due.is("setLine", x.setLine(0, Integer.MIN_VALUE), 0);
            Due.is("setLine again", x.setLine(0, Integer.MAX_VALUE), Integer.MIN_VALUE);
            Due.is("line behind setLine", x.line(0), Integer.MAX_VALUE);
            x.read(0);
            Due.is("line goes round", x.line(0), Integer.MIN_VALUE);
            Due.is("setLine leaves the place", x.skip(0, 9), 1);
        }
    }

    private static void check() {
        Layerwell x = Due.with(49, 50, 51, 52, 53, 54, 55, 56, 57);
        for (int kind : new int[] {3, 6}) {
            x.open(0, kind, 0, 0);
            Due.is("check at first", x.check(0), 0);
            x.read(0);
            x.readPart(0, 2);
            x.skip(0, 3);
            x.pour(0, 1);
            Due.is("check of digits", x.check(0), CHECK_OF_DIGITS);
            x.read(0);
            Due.is("check behind the end", x.check(0), CHECK_OF_DIGITS);
        }
        Due.fill(x, 0, 97, 13, 10, 98, 13);
        Due.fill(x, 1, 97, 10, 98, 10);
        x.open(0, 6, 0, 0);
        x.readLine(0, 2);
        x.readLine(0, 2);
        Due.is("check of CHECKED LINES is that of LINED", x.check(0), x.checkOf(1));
        for (int kind : new int[] {0, 1, 2, 4, 5, 7}) {
            x.open(0, kind, 0, 0);
            Due.isThrown(NOT_ABLE, x, "check of kind " + kind, () -> x.check(0));
            Due.isThrown(NOT_ABLE, x, "checkAnew of kind " + kind, () -> x.checkAnew(0));
        }
    }

    private static void checkAnew() {
        Layerwell x = Due.with(10, 10, 49, 50, 51, 52, 53, 54, 55, 56, 57);
        for (int kind : new int[] {3, 6}) {
            x.open(0, kind, 0, 0);
            x.skip(0, 2);
            long before = x.check(0);
            Due.is("checkAnew", x.checkAnew(0), before);
            Due.is("check then", x.check(0), 0);
            Due.is("checkAnew again", x.checkAnew(0), 0);
            Due.is("the place stays", x.skip(0, 200), 9);
            Due.is("check of digits", x.check(0), CHECK_OF_DIGITS);
        }
        Due.is("the line number stays", x.line(0), 2);
    }

    private static void checkOf() {
        Layerwell x = new Layerwell();
        Due.is("checkOf none", x.checkOf(0), 0);
        Due.fill(x, 0, 49, 50, 51, 52, 53, 54, 55, 56, 57);
        Due.is("checkOf digits", x.checkOf(0), CHECK_OF_DIGITS);
        Due.fill(x, 1, 0);
        Due.is("checkOf 0", x.checkOf(1), 0x527D5351L);
        Due.fillMany(x, 2, 255, 32);
        Due.is("checkOf 32 times 255", x.checkOf(2), 0x62A8AB43L);
        for (int source : NO_STREAMS) {
            Due.isThrown(NO_PLACE, x, "checkOf no source", () -> x.checkOf(source));
        }
    }

    private static void wrongStreams() {
        Layerwell x = new Layerwell();
        Due.isThrown(NOT_ABLE, x, "left not open", () -> x.left(0));
        Due.isThrown(NOT_ABLE, x, "line not open", () -> x.line(0));
        Due.isThrown(NOT_ABLE, x, "setLine not open", () -> x.setLine(0, 0));
        Due.isThrown(NOT_ABLE, x, "check not open", () -> x.check(0));
        Due.isThrown(NOT_ABLE, x, "checkAnew not open", () -> x.checkAnew(0));
        for (int stream : NO_STREAMS) {
            Due.isThrown(NO_PLACE, x, "left no stream", () -> x.left(stream));
            Due.isThrown(NO_PLACE, x, "line no stream", () -> x.line(stream));
            Due.isThrown(NO_PLACE, x, "setLine no stream", () -> x.setLine(stream, 0));
            Due.isThrown(NO_PLACE, x, "check no stream", () -> x.check(stream));
            Due.isThrown(NO_PLACE, x, "checkAnew no stream", () -> x.checkAnew(stream));
        }
    }
}
