/** Promises 9 to 18: opening streams and reading them. */
public final class StreamsTest {
    private static final Class<IndexOutOfBoundsException> NO_PLACE = IndexOutOfBoundsException.class;
    private static final Class<IllegalArgumentException> NO_ARGUMENT = IllegalArgumentException.class;
    private static final Class<IllegalStateException> FULL = IllegalStateException.class;
    private static final Class<UnsupportedOperationException> NOT_ABLE = UnsupportedOperationException.class;
    private static final int[] NO_STREAMS = {-1, 4, Integer.MIN_VALUE, Integer.MAX_VALUE};

    public static void main(String[] args) {
        open();
        outs();
        openAgain();
        kind();
        read();
        readPart();
        partsEndAtTheSeam();
        partAt();
        skip();
        readLine();
        pour();
        alike();
        Due.end();
    }

    /** Source 0 ends with a 13, and source 1 begins with a 10, so that LINED differs at the seam. */
    private static Layerwell seamed() {
        Layerwell x = Due.with(97, 13, 10, 13);
        Due.fill(x, 1, 10, 98, 10);
        return x;
    }

    private static void open() {
        Layerwell x = seamed();
        int[] sizes = {4, 4, 4, 4, 7, 7, 4, 7};
        for (int kind = 0; kind < 8; kind++) {
            Due.is("open kind " + kind, x.open(kind % 4, kind, 0, 1), sizes[kind]);
            Due.is("its kind", x.kind(kind % 4), kind);
        }
        Due.is("open a source twice", x.open(0, 4, 1, 1), 6);
        Due.is("open empty sources", x.open(0, 7, 2, 3), 0);
        for (int wrong : NO_STREAMS) {
            Due.isThrown(NO_PLACE, x, "open no stream", () -> x.open(wrong, 0, 0, 0));
            Due.isThrown(NO_PLACE, x, "open no first source", () -> x.open(0, 0, wrong, 0));
            Due.isThrown(NO_PLACE, x, "open no second source", () -> x.open(0, 4, 0, wrong));
            Due.isThrown(NO_PLACE, x, "open no second source, without meaning", () -> x.open(0, 0, 0, wrong));
            Due.isThrown(NO_PLACE, x, "open no stream, no kind", () -> x.open(wrong, 8, 0, 0));
            Due.isThrown(NO_PLACE, x, "open no second source, no kind", () -> x.open(0, -1, 0, wrong));
        }
        for (int kind : new int[] {-1, 8, Integer.MIN_VALUE, Integer.MAX_VALUE}) {
            Due.isThrown(NO_ARGUMENT, x, "open no kind", () -> x.open(0, kind, 0, 0));
        }
        Due.is("a stream not opened stays so", new Layerwell().kind(0), -1);
    }

    private static void outs() {
        Layerwell x = seamed();
        int[][] outs = {
            {97, 13, 10, 13}, {97, 13, 10, 13}, {97, 10, 10}, {97, 13, 10, 13},
            {97, 13, 10, 13, 10, 98, 10}, {97, 10, 10, 98, 10}, {97, 10, 10}, {97, 10, 10, 10, 98, 10}};
        for (int kind = 0; kind < 8; kind++) {
            x.open(2, kind, 0, 1);
            Due.isRest("OUT of kind " + kind, x, 2, outs[kind]);
        }
        Due.fill(x, 0, 13, 13, 10, 10, 0, 13, 255);
        x.open(0, 2, 0, 0);
        Due.isRest("LINED", x, 0, 10, 10, 10, 0, 10, 255);
        x.open(0, 5, 3, 1);
        Due.isRest("LINES of JOINED, the first one empty", x, 0, 10, 98, 10);
        x.open(0, 5, 1, 3);
        Due.isRest("LINES of JOINED, the second one empty", x, 0, 10, 98, 10);
        Due.fillMany(x, 0, 200, 120);
        Due.fillMany(x, 1, 13, 120);
        x.open(0, 7, 0, 1);
        Due.is("the longest OUT", x.skip(0, 200), 200);
        Due.is("the rest of it", x.skip(0, 200), 40);
    }

    private static void openAgain() {
        Layerwell x = Due.with(10, 1, 2);
        x.open(0, 6, 0, 0);
        x.read(0);
        x.mark(0);
        x.setLine(0, 50);
        x.open(0, 6, 0, 0);
        Due.is("line of a stream opened again", x.line(0), 0);
        Due.is("check of a stream opened again", x.check(0), 0);
        Due.isThrown(NOT_ABLE, x, "its mark is gone", () -> x.back(0));
        x.open(1, 0, 0, 0);
        x.clear(0);
        x.typeMany(0, 9, 5);
        Due.isRest("a source that changed", x, 0, 10, 1, 2);
        Due.isRest("a source that changed", x, 1, 10, 1, 2);
        x.open(0, 0, 0, 0);
        x.open(1, 0, 0, 0);
        x.read(0);
        Due.isRest("streams of the same source", x, 1, 9, 9, 9, 9, 9);
    }

    private static void kind() {
        Layerwell x = new Layerwell();
        Due.is("kind of none", x.kind(3), -1);
        x.open(3, 7, 0, 0);
        Due.is("kind", x.kind(3), 7);
        x.open(3, 0, 0, 0);
        Due.is("kind of another", x.kind(3), 0);
        Due.is("kind of others", x.kind(2), -1);
        for (int stream : NO_STREAMS) {
            Due.isThrown(NO_PLACE, x, "kind no stream", () -> x.kind(stream));
        }
    }

    private static void read() {
        Layerwell x = Due.with(0, 255);
        x.open(1, 0, 0, 0);
        Due.is("read 0", x.read(1), 0);
        Due.is("read 255", x.read(1), 255);
        Due.is("read none", x.read(1), -1);
        Due.is("read none again", x.read(1), -1);
        Due.is("left behind the end", x.left(1), 0);
        Due.isThrown(NOT_ABLE, x, "read not open", () -> x.read(0));
        for (int stream : NO_STREAMS) {
            Due.isThrown(NO_PLACE, x, "read no stream", () -> x.read(stream));
        }
    }

    private static void readPart() {
        Layerwell x = Due.with(1, 2, 3, 4, 5);
        x.open(0, 0, 0, 0);
        Due.is("readPart 2", x.readPart(0, 2), 2);
        Due.isPart("readPart 2", x, 1, 2);
        Due.is("readPart 1", x.readPart(0, 1), 1);
        Due.isPart("readPart 1", x, 3);
        Due.is("readPart 64", x.readPart(0, 64), 2);
        Due.isPart("readPart 64", x, 4, 5);
        Due.is("readPart none", x.readPart(0, 1), -1);
        Due.isPart("the part stays", x, 4, 5);
        Due.fillMany(x, 1, 7, 120);
        x.open(1, 3, 1, 0);
        Due.is("readPart most", x.readPart(1, 64), 64);
        Due.is("readPart the rest", x.readPart(1, 64), 56);
        Due.is("partLength", x.partLength(), 56);
        for (int many : new int[] {0, -1, 65, Integer.MIN_VALUE, Integer.MAX_VALUE}) {
            Due.isThrown(NO_ARGUMENT, x, "readPart out of range", () -> x.readPart(1, many));
            Due.isThrown(NO_ARGUMENT, x, "readPart out of range, not open", () -> x.readPart(3, many));
        }
        Due.isThrown(NOT_ABLE, x, "readPart not open", () -> x.readPart(3, 1));
        for (int stream : NO_STREAMS) {
            Due.isThrown(NO_PLACE, x, "readPart no stream", () -> x.readPart(stream, 0));
        }
    }

    private static void partsEndAtTheSeam() {
        Layerwell x = seamed();
        int[] firsts = {4, 4, 3, 4, 4, 5, 3, 3};
        int[] seconds = {-1, -1, -1, -1, 3, -1, -1, 3};
        for (int kind = 0; kind < 8; kind++) {
            x.open(0, kind, 0, 1);
            Due.is("first part of kind " + kind, x.readPart(0, 64), firsts[kind]);
            Due.is("second part of kind " + kind, x.readPart(0, 64), seconds[kind]);
        }
        Due.isPart("the part of the second source", x, 10, 98, 10);
        x.open(0, 4, 0, 1);
        x.skip(0, 3);
        Due.is("one byte ahead of the seam", x.readPart(0, 2), 1);
        Due.is("skip passes the seam", seamSkip(x), 6);
        x.open(0, 4, 3, 1);
        Due.is("the first source is empty", x.readPart(0, 64), 3);
        x.open(0, 7, 0, 3);
        Due.is("the second source is empty", x.readPart(0, 64), 3);
        Due.is("nothing behind it", x.readPart(0, 64), -1);
        x.open(0, 4, 3, 2);
        Due.is("both are empty", x.readPart(0, 64), -1);
    }

    private static int seamSkip(Layerwell x) {
        x.open(0, 4, 0, 1);
        return x.skip(0, 6);
    }

    private static void partAt() {
        Layerwell x = Due.with(0, 255);
        Due.isThrown(NO_PLACE, x, "partAt of none", () -> x.partAt(0));
        x.open(0, 0, 0, 0);
        x.readPart(0, 64);
        Due.is("partAt 0", x.partAt(0), 0);
        Due.is("partAt 1", x.partAt(1), 255);
        for (int index : new int[] {-1, 2, 64, 240, Integer.MIN_VALUE, Integer.MAX_VALUE}) {
            Due.isThrown(NO_PLACE, x, "partAt no place", () -> x.partAt(index));
        }
        x.open(0, 0, 0, 0);
        x.readPart(0, 1);
        Due.isThrown(NO_PLACE, x, "partAt of a shorter part", () -> x.partAt(1));
        x.open(1, 1, 0, 0);
        x.clear(0);
        x.readPart(1, 2);
        Due.isPart("the part of another stream", x, 0, 255);
        x.read(1);
        x.open(1, 1, 0, 0);
        Due.isPart("the part stays", x, 0, 255);
    }

    private static void skip() {
        Layerwell x = Due.with(1, 2, 13, 10, 5);
        x.open(0, 2, 0, 0);
        Due.is("skip none", x.skip(0, 0), 0);
        Due.is("skip 3", x.skip(0, 3), 3);
        Due.is("skip counts lines", x.line(0), 1);
        Due.is("read behind skip", x.read(0), 5);
        Due.is("skip at the end", x.skip(0, 200), 0);
        Due.is("the part stays", x.partLength(), 0);
        for (int many : new int[] {-1, 201, Integer.MIN_VALUE, Integer.MAX_VALUE}) {
            Due.isThrown(NO_ARGUMENT, x, "skip out of range", () -> x.skip(0, many));
            Due.isThrown(NO_ARGUMENT, x, "skip out of range, not open", () -> x.skip(3, many));
        }
        Due.isThrown(NOT_ABLE, x, "skip not open", () -> x.skip(3, 0));
        for (int stream : NO_STREAMS) {
            Due.isThrown(NO_PLACE, x, "skip no stream", () -> x.skip(stream, -1));
        }
    }

    private static void readLine() {
        Layerwell x = Due.with(97, 98, 13, 10, 10, 99);
        x.open(0, 2, 0, 0);
        Due.is("readLine", x.readLine(0, 1), 2);
        Due.isSource("readLine", x, 1, 97, 98);
        Due.is("line behind readLine", x.line(0), 1);
        Due.is("readLine of an empty line", x.readLine(0, 1), 0);
        Due.isSource("readLine of an empty line", x, 1);
        Due.is("readLine of the last line", x.readLine(0, 0), 1);
        Due.isSource("readLine of the last line", x, 0, 99);
        Due.is("readLine of none", x.readLine(0, 0), -1);
        Due.isSource("the source stays", x, 0, 99);
        Due.is("no end of line is counted that is not there", x.line(0), 2);
        Due.fill(x, 0, 97, 13, 10);
        x.open(0, 0, 0, 0);
        Due.is("readLine of BYTES", x.readLine(0, 2), 2);
        Due.isSource("a 13 of BYTES stays", x, 2, 97, 13);
        Due.is("nothing is left", x.left(0), 0);
        readLongLine();
        Due.isThrown(NOT_ABLE, x, "readLine not open", () -> x.readLine(3, 0));
        for (int wrong : NO_STREAMS) {
            Due.isThrown(NO_PLACE, x, "readLine no stream", () -> x.readLine(wrong, 0));
            Due.isThrown(NO_PLACE, x, "readLine no source, not open", () -> x.readLine(3, wrong));
        }
    }

    private static void readLongLine() {
        Layerwell x = new Layerwell();
        Due.fillMany(x, 0, 7, 120);
        Due.fill(x, 1, 7, 10, 8);
        x.open(0, 5, 0, 1);
        Due.isThrown(FULL, x, "readLine of 121", () -> x.readLine(0, 3));
        x.open(1, 4, 0, 1);
        Due.isThrown(FULL, x, "readLine of 121", () -> x.readLine(1, 0));
        Due.is("nothing is read", x.read(0), 7);
        Due.is("readLine of 120", x.readLine(0, 3), 120);
        Due.is("its length", x.length(3), 120);
        Due.is("readLine behind it", x.readLine(0, 3), 1);
        Due.fill(x, 1, 7);
        x.open(1, 4, 0, 1);
        Due.isThrown(FULL, x, "readLine of 121 without an end", () -> x.readLine(1, 0));
        Due.isThrown(NOT_ABLE, x, "readLine not open", () -> x.readLine(2, 0));
    }

    private static void pour() {
        Layerwell x = Due.with(97, 13, 10, 98);
        x.open(0, 6, 0, 0);
        x.read(0);
        Due.is("pour", x.pour(0, 0), 2);
        Due.isSource("pour", x, 0, 10, 98);
        Due.is("line behind pour", x.line(0), 1);
        Due.is("read behind pour", x.read(0), -1);
        Due.is("pour none", x.pour(0, 0), 0);
        Due.isSource("pour none empties the source", x, 0);
        Due.fillMany(x, 1, 7, 120);
        Due.fill(x, 2, 8);
        x.open(0, 4, 1, 2);
        Due.isThrown(FULL, x, "pour 121", () -> x.pour(0, 3));
        Due.is("nothing is read", x.read(0), 7);
        Due.is("pour 120", x.pour(0, 3), 120);
        Due.is("the last of them", x.byteAt(3, 119), 8);
        Due.isThrown(NOT_ABLE, x, "pour not open", () -> x.pour(3, 0));
        for (int wrong : NO_STREAMS) {
            Due.isThrown(NO_PLACE, x, "pour no stream", () -> x.pour(wrong, 0));
            Due.isThrown(NO_PLACE, x, "pour no source, not open", () -> x.pour(3, wrong));
        }
    }

    private static void alike() {
        Layerwell x = Due.with(1, 2, 3, 4, 5);
        Due.fill(x, 1, 1, 2, 9, 4);
        Due.fill(x, 2, 1, 2);
        isAlike(x, 0, 1, 2, 2, 1);
        isAlike(x, 0, 2, 2, 2, 0);
        isAlike(x, 2, 0, 2, 0, 2);
        isAlike(x, 0, 0, 5, 0, 0);
        isAlike(x, 3, 0, 0, 0, 4);
        isAlike(x, 0, 3, 0, 4, 0);
        isAlike(x, 3, 3, 0, 0, 0);
        Due.fillMany(x, 0, 10, 120);
        x.open(0, 5, 0, 0);
        x.open(1, 4, 0, 0);
        Due.is("alike of the longest", x.alike(0, 1), 240);
        Due.is("alike passes lines", x.line(0), 240);
        Due.isThrown(NO_ARGUMENT, x, "alike of the same", () -> x.alike(0, 0));
        Due.isThrown(NO_ARGUMENT, x, "alike of the same, not open", () -> x.alike(3, 3));
        Due.isThrown(NOT_ABLE, x, "alike, the first one not open", () -> x.alike(3, 0));
        Due.isThrown(NOT_ABLE, x, "alike, the other one not open", () -> x.alike(0, 3));
        for (int wrong : NO_STREAMS) {
            Due.isThrown(NO_PLACE, x, "alike no stream", () -> x.alike(wrong, 0));
            Due.isThrown(NO_PLACE, x, "alike no other stream", () -> x.alike(3, wrong));
            Due.isThrown(NO_PLACE, x, "alike the same, no stream", () -> x.alike(wrong, wrong));
        }
    }

    private static void isAlike(Layerwell x, int a, int b, int same, int leftOfFirst, int leftOfOther) {
        String where = "alike of sources " + a + " and " + b;
        x.open(0, 0, a, 0);
        x.open(1, 0, b, 0);
        Due.is(where, x.alike(0, 1), same);
        Due.is(where + ", left of the first", x.left(0), leftOfFirst);
        Due.is(where + ", left of the other", x.left(1), leftOfOther);
    }
}
