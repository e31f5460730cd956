/** Promises 9 to 18: opening streams and reading them. Above each test stands the sentence that it is for. */
public final class StreamsTest {
    private static final int[] A = {97, 13, 10, 13};
    private static final int[] B = {10, 98, 10};

    public static void main(String[] args) {
        Due.runAll(StreamsTest.class);
    }

    /** Source 0 ends with a 13, and source 1 begins with a 10, so that LINED differs at the seam. */
    private static Layerwell seamed() {
        Layerwell x = Due.with(A);
        Due.fill(x, 1, B);
        return x;
    }

    private static Layerwell seamed(int kind) {
        Layerwell x = seamed();
        x.open(0, kind, 0, 1);
        return x;
    }

    /** Source 0 and source 1 with so many bytes 7, and a stream 0 over both. */
    private static Layerwell sevens(int kind, int many, int manyOfSecond) {
        Layerwell x = Due.withMany(7, many);
        Due.fillMany(x, 1, 7, manyOfSecond);
        x.open(0, kind, 0, 1);
        return x;
    }

    // Promise 9: open

    /** "Opens a stream", "stream: 0 to 3", "kind: 0 to 7" */
    private static void openOpensEachStreamOfEachKind() {
        for (int stream = 0; stream < 4; stream++) {
            for (int kind = 0; kind < 8; kind++) {
                Layerwell x = seamed();
                x.open(stream, kind, 0, 1);
                for (int other = 0; other < 4; other++) {
                    Due.is("kind", x.kind(other), other == stream ? kind : -1);
                }
                Due.isRest("kind " + kind, x, stream, Want.out(kind, A, B));
            }
        }
    }

    /** "a: the first source", "b: the second one": each of 0 to 3 */
    private static void openTakesEachSource() {
        Layerwell x = new Layerwell();
        for (int source = 0; source < 4; source++) {
            x.type(source, 65 + source);
        }
        for (int a = 0; a < 4; a++) {
            for (int b = 0; b < 4; b++) {
                Due.is("open", x.open(1, 4, a, b), 2);
                Due.isRest("sources " + a + " and " + b, x, 1, 65 + a, 65 + b);
            }
        }
    }

    /** "it has no meaning for kinds 0, 1, 2, 3 and 6" */
    private static void openHasNoUseOfTheSecondSourceOfSomeKinds() {
        for (int kind : Want.OF_ONE) {
            for (int b = 0; b < 4; b++) {
                Layerwell x = seamed();
                Due.is("open kind " + kind, x.open(0, kind, 0, b), 4);
                Due.isRest("kind " + kind, x, 0, Want.out(kind, A, Want.NOTHING));
            }
        }
    }

    /** "Opens a stream, again or not.": all begins anew */
    private static void openAgainBeginsAnew() {
        for (int before = 0; before < 8; before++) {
            for (int kind = 0; kind < 8; kind++) {
                Layerwell x = seamed(before);
                passAndMark(x);
                x.open(0, kind, 0, 1);
                Due.is("kind " + before + " and then " + kind, Look.at(x), Look.at(seamed(kind)));
            }
        }
    }

    /** Whatever a kind can't do is refused, and does not matter here. */
    private static void passAndMark(Layerwell x) {
        x.skip(0, 2);
        Due.thrownBy(x, y -> y.setLine(0, 50));
        Due.thrownBy(x, y -> y.mark(0));
        x.skip(0, 1);
    }

    /** A stream opened again has what the sources have by then, less or more. */
    private static void openAgainTakesTheSourcesAsTheyAre() {
        for (int kind = 0; kind < 8; kind++) {
            Layerwell x = seamed(kind);
            Due.fill(x, 0, 1);
            Due.fill(x, 1, 2);
            x.open(0, kind, 0, 1);
            Due.isRest("less", x, 0, Want.out(kind, new int[] {1}, new int[] {2}));
            Due.fillMany(x, 0, 3, 120);
            x.open(0, kind, 0, 2);
            Due.isRest("more", x, 0, Want.many(3, 120));
        }
    }

    /** Another stream is as it was. */
    private static void openLeavesOtherStreams() {
        Layerwell x = Due.rich();
        x.open(3, 5, 0, 2);
        Due.is("line", x.line(0), Integer.MAX_VALUE);
        Due.is("back", x.back(0), 41);
        Due.is("left", x.left(1), 2);
        Due.isRest("stream 2", x, 2, Want.joined(Want.many(7, 120), new int[] {97, 13, 10, 98, 13, 10, 99, 10}));
    }

    /** "Returns how many bytes its sources have, both together for kinds 4, 5 and 7." */
    private static void openAnswersHowManyBytesItsSourcesHave() {
        Layerwell x = seamed();
        for (int kind : Want.OF_ONE) {
            Due.is("kind " + kind, x.open(0, kind, 0, 1), 4);
        }
        for (int kind : Want.OF_TWO) {
            Due.is("kind " + kind, x.open(0, kind, 0, 1), 7);
            Due.is("kind " + kind + ", one source twice", x.open(0, kind, 1, 1), 6);
        }
    }

    /** The same of empty sources, and of sources with 120 bytes */
    private static void openAnswersOfEmptyAndFullSources() {
        for (int kind = 0; kind < 8; kind++) {
            boolean ofTwo = kind == 4 || kind == 5 || kind == 7;
            Layerwell x = Due.withMany(13, 120);
            Due.fillMany(x, 1, 10, 120);
            Due.is("full ones", x.open(0, kind, 0, 1), ofTwo ? 240 : 120);
            Due.is("a full one and an empty one", x.open(0, kind, 0, 2), 120);
            Due.is("an empty one and a full one", x.open(0, kind, 2, 0), ofTwo ? 120 : 0);
            Due.is("empty ones", x.open(0, kind, 2, 3), 0);
        }
    }

    /** "Throws IndexOutOfBoundsException if there is no such stream" */
    private static void openRefusesNoStream() {
        Due.isRefusedOutside0To3("open", (x, stream) -> x.open(stream, 0, 0, 0));
    }

    /** "or source", and b "must be one" for each kind */
    private static void openRefusesNoSource() {
        for (int i = 0; i < 8; i++) {
            int kind = i;
            Due.isRefusedOutside0To3("open a, kind " + kind, (x, source) -> x.open(0, kind, source, 0));
            Due.isRefusedOutside0To3("open b, kind " + kind, (x, source) -> x.open(0, kind, 0, source));
        }
    }

    /** "Throws IllegalArgumentException if there is no such kind" */
    private static void openRefusesNoKind() {
        for (int kind : new int[] {-1, 8, 9, 256, Integer.MIN_VALUE, Integer.MAX_VALUE}) {
            Due.isRefused(Due.NO_ARGUMENT, Due::rich, "open kind " + kind, x -> x.open(0, kind, 0, 0));
            Due.isRefused(Due.NO_ARGUMENT, Due::rich, "open kind " + kind, x -> x.open(3, kind, 0, 0));
        }
    }

    /** "If several exceptions apply, the one that is documented first is thrown." */
    private static void openThrowsInOrder() {
        for (int kind : new int[] {-1, 8}) {
            Due.isRefusedOutside0To3("no kind, no stream", (x, stream) -> x.open(stream, kind, 0, 0));
            Due.isRefusedOutside0To3("no kind, no first source", (x, source) -> x.open(0, kind, source, 0));
            Due.isRefusedOutside0To3("no kind, no second source", (x, source) -> x.open(0, kind, 0, source));
        }
    }

    // Promise 10: kind

    /** "Returns its kind, -1 if it is not open." */
    private static void kindAnswersTheKind() {
        Layerwell x = new Layerwell();
        for (int stream = 0; stream < 4; stream++) {
            Due.is("kind of none", x.kind(stream), -1);
            for (int kind = 0; kind < 8; kind++) {
                x.open(stream, kind, 0, 0);
                Due.is("kind", x.kind(stream), kind);
            }
            x.read(stream);
            Due.is("kind of a stream at its end", x.kind(stream), 7);
        }
    }

    /** "Throws IndexOutOfBoundsException if there is no such stream" */
    private static void kindRefusesNoStream() {
        Due.isRefusedOutside0To3("kind", (x, stream) -> x.kind(stream));
    }

    // Promise 11: read

    /** "Returns the byte": the smallest and the largest one, and 127 and 128 */
    private static void readAnswersTheByte() {
        for (int kind = 0; kind < 8; kind++) {
            Due.isRest("kind " + kind, Due.opened(kind, 0, 127, 128, 255), 0, 0, 127, 128, 255);
        }
    }

    /** "-1 if there is none.", once and again, and nothing is passed then */
    private static void readAnswersThatThereIsNone() {
        for (int kind = 0; kind < 8; kind++) {
            Layerwell x = seamed(kind);
            x.skip(0, 200);
            String before = Look.at(atEnd(kind));
            Due.is("read none", x.read(0), -1);
            Due.is("read none again", x.read(0), -1);
            Due.is("kind " + kind, Look.at(x), before);
            Due.is("read of an empty one", Due.opened(kind).read(0), -1);
        }
    }

    private static Layerwell atEnd(int kind) {
        Layerwell x = seamed(kind);
        x.skip(0, 200);
        return x;
    }

    /** "Throws IndexOutOfBoundsException if there is no such stream" */
    private static void readRefusesNoStream() {
        Due.isRefusedOutside0To3("read", (x, stream) -> x.read(stream));
    }

    /** "Throws UnsupportedOperationException if it is not open" */
    private static void readRefusesAStreamThatIsNotOpen() {
        Due.isRefusedIfNotOpen("read", (x, stream) -> x.read(stream));
    }

    // Promise 12: readPart

    /** "as many bytes as there are, and as are wanted": at each place, of each kind, so few and so many */
    private static void readPartAtEachPlace() {
        for (int kind = 0; kind < 8; kind++) {
            int[] out = Want.out(kind, A, B);
            for (int place = 0; place <= out.length; place++) {
                for (int many = 1; many <= 9; many++) {
                    Layerwell x = seamed(kind);
                    x.skip(0, place);
                    int size = Want.partSize(kind, A, B, place, many);
                    String where = "kind " + kind + ", place " + place + ", many " + many;
                    Due.is(where, x.readPart(0, many), size);
                    int end = place + Math.max(size, 0);
                    Due.isPart(where, x, java.util.Arrays.copyOfRange(out, place, end));
                    Due.isRest(where, x, 0, Want.from(out, end));
                }
            }
        }
    }

    /** "many: 1 to 64": one */
    private static void readPartOne() {
        for (int kind = 0; kind < 8; kind++) {
            Layerwell x = sevens(kind, 120, 120);
            Due.is("one", x.readPart(0, 1), 1);
            Due.isPart("one", x, 7);
        }
    }

    /** "many: 1 to 64": sixty-four, of as many, of one more, and of one less */
    private static void readPartSixtyFour() {
        for (int kind = 0; kind < 8; kind++) {
            Layerwell x = sevens(kind, 65, 0);
            Due.is("of 65", x.readPart(0, 64), 64);
            Due.isPart("of 65", x, Want.many(7, 64));
            Due.is("what is left", x.readPart(0, 64), 1);
            Due.is("of 64", sevens(kind, 64, 0).readPart(0, 64), 64);
            Due.is("of 63", sevens(kind, 63, 0).readPart(0, 64), 63);
        }
    }

    /** A source with 120 bytes, and two of them */
    private static void readPartOfFullSources() {
        for (int kind = 0; kind < 8; kind++) {
            Layerwell x = sevens(kind, 120, 120);
            boolean hasSeam = kind == 4 || kind == 7;
            int[] sizes = hasSeam ? new int[] {64, 56, 64, 56, -1}
                    : kind == 5 ? new int[] {64, 64, 64, 48, -1} : new int[] {64, 56, -1};
            for (int size : sizes) {
                Due.is("kind " + kind, x.readPart(0, 64), size);
            }
        }
    }

    /** "of kinds 4 and 7, if there is a byte left that comes of the first source, none [...] of the second one." */
    private static void readPartEndsAtTheSeamOfKinds4And7() {
        for (int kind : new int[] {4, 7}) {
            Layerwell x = sevens(kind, 5, 3);
            Due.is("all of the first source", x.readPart(0, 64), 5);
            Due.is("all of the second one", x.readPart(0, 64), 3);
            Due.is("nothing is left", x.readPart(0, 64), -1);
            x = sevens(kind, 5, 3);
            x.skip(0, 4);
            Due.is("the last byte of the first one", x.readPart(0, 2), 1);
            x = sevens(kind, 5, 3);
            x.skip(0, 5);
            Due.is("at the seam", x.readPart(0, 64), 3);
            x = sevens(kind, 5, 3);
            Due.is("just up to the seam", x.readPart(0, 5), 5);
            Due.is("and behind it", x.readPart(0, 1), 1);
        }
    }

    /** Of kind 7 the first source is LINED, and so the seam is where LINED ends. */
    private static void readPartEndsAtTheSeamOfLined() {
        Layerwell x = seamed(7);
        Due.is("the first source LINED", x.readPart(0, 64), 3);
        Due.isPart("the first source LINED", x, 97, 10, 10);
        Due.is("the second one", x.readPart(0, 64), 3);
        Due.isPart("the second one", x, 10, 98, 10);
    }

    /** Kind 5, and all of one source, have no seam. */
    private static void readPartHasNoSeamOfOtherKinds() {
        Due.is("kind 5", sevens(5, 5, 3).readPart(0, 64), 8);
        for (int kind : Want.OF_ONE) {
            Layerwell x = sevens(kind, 5, 3);
            Due.is("kind " + kind, x.readPart(0, 64), 5);
            Due.is("kind " + kind, x.readPart(0, 64), -1);
        }
    }

    /** The seam, if the first source, the second one, or both are empty */
    private static void readPartOfEmptySources() {
        for (int kind : Want.OF_TWO) {
            Layerwell x = sevens(kind, 0, 3);
            Due.is("the first one is empty", x.readPart(0, 64), 3);
            Due.is("nothing is left", x.readPart(0, 64), -1);
            x = sevens(kind, 3, 0);
            Due.is("the second one is empty", x.readPart(0, 64), 3);
            Due.is("nothing is left", x.readPart(0, 64), -1);
            Due.is("both are empty", sevens(kind, 0, 0).readPart(0, 64), -1);
        }
    }

    /** "-1 if there is none, and the part stays." */
    private static void readPartOfNoneLeavesThePart() {
        for (int kind = 0; kind < 8; kind++) {
            Layerwell x = seamed(kind);
            x.readPart(0, 2);
            x.skip(0, 200);
            Due.is("readPart", x.readPart(0, 1), -1);
            Due.is("readPart", x.readPart(0, 64), -1);
            Due.isPart("the part", x, Want.out(kind, A, B)[0], Want.out(kind, A, B)[1]);
            x = Due.opened(kind);
            Due.is("readPart of an empty one", x.readPart(0, 64), -1);
            Due.is("partLength", x.partLength(), 0);
        }
    }

    /** "Throws IndexOutOfBoundsException if there is no such stream" */
    private static void readPartRefusesNoStream() {
        Due.isRefusedOutside0To3("readPart", (x, stream) -> x.readPart(stream, 1));
    }

    /** "Throws IllegalArgumentException if many is out of range" */
    private static void readPartRefusesManyOutOfRange() {
        for (int many : new int[] {0, -1, 65, 256, Integer.MIN_VALUE, Integer.MAX_VALUE}) {
            Due.isRefused(Due.NO_ARGUMENT, Due::rich, "readPart " + many, x -> x.readPart(0, many));
            Due.isRefused(Due.NO_ARGUMENT, () -> Due.opened(4), "readPart " + many, x -> x.readPart(0, many));
        }
    }

    /** "Throws UnsupportedOperationException if it is not open" */
    private static void readPartRefusesAStreamThatIsNotOpen() {
        Due.isRefusedIfNotOpen("readPart", (x, stream) -> x.readPart(stream, 1));
    }

    /** "If several exceptions apply, the one that is documented first is thrown." */
    private static void readPartThrowsInOrder() {
        for (int many : new int[] {0, 65}) {
            Due.isRefusedOutside0To3("readPart " + many, (x, stream) -> x.readPart(stream, many));
            Due.isRefused(Due.NO_ARGUMENT, Due::rich, "not open, " + many, x -> x.readPart(3, many));
        }
    }

    // Promise 13: partLength

    /** "Returns how many bytes the part has.": none, one, sixty-four, and fewer again */
    private static void partLengthAnswersHowMany() {
        Layerwell x = sevens(0, 120, 0);
        Due.is("none", x.partLength(), 0);
        x.readPart(0, 1);
        Due.is("one", x.partLength(), 1);
        x.readPart(0, 64);
        Due.is("sixty-four", x.partLength(), 64);
        x.readPart(0, 64);
        Due.is("fewer than wanted", x.partLength(), 55);
    }

    // Promise 14: partAt

    /** "Returns a byte of the part.", "index: from 0" to the last of 64 */
    private static void partAtAnswersTheByte() {
        Layerwell x = new Layerwell();
        for (int i = 0; i < 64; i++) {
            x.type(0, 255 - i);
        }
        x.open(0, 0, 0, 0);
        x.readPart(0, 64);
        for (int i = 0; i < 64; i++) {
            Due.is("partAt", x.partAt(i), 255 - i);
        }
    }

    /** "Throws IndexOutOfBoundsException if there is no such place" */
    private static void partAtRefusesNoPlace() {
        Due.isRefused(Due.NO_PLACE, Layerwell::new, "partAt of none", x -> x.partAt(0));
        for (int index : new int[] {-1, 2, 63, 64, 240, Integer.MIN_VALUE, Integer.MAX_VALUE}) {
            Due.isRefused(Due.NO_PLACE, Due::rich, "partAt " + index, x -> x.partAt(index));
        }
        Due.isRefused(Due.NO_PLACE, StreamsTest::partOf64, "partAt 64", x -> x.partAt(64));
        Due.isRefused(Due.NO_PLACE, StreamsTest::shorterPart, "partAt of a shorter part", x -> x.partAt(1));
    }

    private static Layerwell partOf64() {
        Layerwell x = sevens(0, 120, 0);
        x.readPart(0, 64);
        return x;
    }

    private static Layerwell shorterPart() {
        Layerwell x = partOf64();
        x.readPart(0, 1);
        return x;
    }

    // Promise 15: skip

    /** "Passes bytes, as many as there are, and as are wanted. [...] Returns how many were passed.": at each place */
    private static void skipAtEachPlace() {
        for (int kind = 0; kind < 8; kind++) {
            int[] out = Want.out(kind, A, B);
            for (int place = 0; place <= out.length; place++) {
                for (int many = 0; many <= 9; many++) {
                    Layerwell x = seamed(kind);
                    Due.is("skip to the place", x.skip(0, place), place);
                    int passed = Math.min(many, out.length - place);
                    Due.is("kind " + kind + ", place " + place + ", many " + many, x.skip(0, many), passed);
                    Due.isRest("kind " + kind, x, 0, Want.from(out, place + passed));
                }
            }
        }
    }

    /** "many: 0 to 200": none */
    private static void skipNone() {
        for (int kind = 0; kind < 8; kind++) {
            Layerwell x = seamed(kind);
            Due.is("skip none", x.skip(0, 0), 0);
            Due.is("nothing has changed", Look.at(x), Look.at(seamed(kind)));
        }
    }

    /** "many: 0 to 200": two hundred, of 240, of 201, of 200, of 199 */
    private static void skipTwoHundred() {
        for (int kind : Want.OF_TWO) {
            Layerwell x = sevens(kind, 120, 120);
            Due.is("of 240", x.skip(0, 200), 200);
            Due.is("what is left", x.skip(0, 200), 40);
            Due.is("nothing is left", x.skip(0, 200), 0);
            Due.is("of 201", sevens(kind, 120, 81).skip(0, 200), 200);
            Due.is("of 200", sevens(kind, 120, 80).skip(0, 200), 200);
            Due.is("of 199", sevens(kind, 120, 79).skip(0, 200), 199);
        }
        for (int kind : Want.OF_ONE) {
            Due.is("of 120", sevens(kind, 120, 120).skip(0, 200), 120);
        }
    }

    /** A stream that has nothing left, and one over empty sources */
    private static void skipWithNothingLeft() {
        for (int kind = 0; kind < 8; kind++) {
            Layerwell x = seamed(kind);
            x.skip(0, 200);
            Due.is("skip at the end", x.skip(0, 1), 0);
            Due.is("skip at the end", x.skip(0, 200), 0);
            Due.is("skip of an empty one", Due.opened(kind).skip(0, 200), 0);
        }
    }

    /** Skipped bytes are passed ones: line numbers and checks count them. */
    private static void skipCounts() {
        Layerwell x = seamed(6);
        x.skip(0, 2);
        Due.is("line", x.line(0), 1);
        Due.is("check", x.check(0), Want.check(97, 10));
        x.skip(0, 200);
        Due.is("line", x.line(0), 2);
        Due.is("check", x.check(0), Want.check(97, 10, 10));
        Due.is("the part is none", x.partLength(), 0);
    }

    /** "Throws IndexOutOfBoundsException if there is no such stream" */
    private static void skipRefusesNoStream() {
        Due.isRefusedOutside0To3("skip", (x, stream) -> x.skip(stream, 1));
    }

    /** "Throws IllegalArgumentException if many is out of range" */
    private static void skipRefusesManyOutOfRange() {
        for (int many : new int[] {-1, 201, 240, 256, Integer.MIN_VALUE, Integer.MAX_VALUE}) {
            Due.isRefused(Due.NO_ARGUMENT, Due::rich, "skip " + many, x -> x.skip(0, many));
            Due.isRefused(Due.NO_ARGUMENT, () -> Due.opened(4), "skip " + many, x -> x.skip(0, many));
        }
    }

    /** "Throws UnsupportedOperationException if it is not open" */
    private static void skipRefusesAStreamThatIsNotOpen() {
        Due.isRefusedIfNotOpen("skip", (x, stream) -> x.skip(stream, 1));
        Due.isRefusedIfNotOpen("skip none", (x, stream) -> x.skip(stream, 0));
    }

    /** "If several exceptions apply, the one that is documented first is thrown." */
    private static void skipThrowsInOrder() {
        for (int many : new int[] {-1, 201}) {
            Due.isRefusedOutside0To3("skip " + many, (x, stream) -> x.skip(stream, many));
            Due.isRefused(Due.NO_ARGUMENT, Due::rich, "not open, " + many, x -> x.skip(3, many));
        }
    }

    // Promise 16: readLine

    /** "Reads bytes up to the next 10, which is read, too, or all that are left": all lines, of each kind */
    private static void readLineReadsEachLine() {
        for (int kind = 0; kind < 8; kind++) {
            for (int[] a : Want.rowsUpTo(3)) {
                Layerwell x = Due.with(a);
                Due.fill(x, 1, B);
                x.open(0, kind, 0, 1);
                readsLines(x, Want.out(kind, a, B));
            }
        }
    }

    private static void readsLines(Layerwell x, int[] out) {
        int from = 0;
        while (from < out.length) {
            int end = from;
            while (end < out.length && out[end] != 10) {
                end++;
            }
            Due.is("readLine", x.readLine(0, 2), end - from);
            Due.isSource("readLine", x, 2, java.util.Arrays.copyOfRange(out, from, end));
            from = end + 1;
        }
        Due.is("readLine of none", x.readLine(0, 2), -1);
    }

    /** "a source becomes them, without that 10.": instead of what it had */
    private static void readLineReplacesTheSource() {
        Layerwell x = Due.opened(0, 97, 98, 10, 99);
        Due.fillMany(x, 3, 5, 120);
        Due.is("readLine", x.readLine(0, 3), 2);
        Due.isSource("readLine", x, 3, 97, 98);
        Due.isSource("its source", x, 0, 97, 98, 10, 99);
        Due.is("left", x.left(0), 1);
    }

    /** "to": each source, also one that the stream was opened of */
    private static void readLineTakesEachSource() {
        for (int to = 0; to < 4; to++) {
            Layerwell x = Due.opened(2, 97, 13, 10, 98);
            Due.is("readLine", x.readLine(0, to), 1);
            Due.isSource("readLine", x, to, 97);
            Due.is("readLine", x.readLine(0, to), 1);
            Due.isSource("readLine", x, to, 98);
        }
    }

    /** An empty line: "Returns how many it has then", none, and the 10 is read */
    private static void readLineOfAnEmptyLine() {
        for (int kind = 0; kind < 8; kind++) {
            Layerwell x = Due.opened(kind, 10, 97);
            Due.fill(x, 1, 5);
            Due.is("readLine", x.readLine(0, 1), 0);
            Due.isSource("readLine", x, 1);
            Due.isRest("readLine", x, 0, 97);
        }
    }

    /** "or all that are left": without a 10 at the end, none is counted, and with one, nothing is left */
    private static void readLineOfTheLastLine() {
        for (int kind : Want.WITH_LINES) {
            Layerwell x = Due.opened(kind, 97);
            Due.is("without a 10", x.readLine(0, 1), 1);
            Due.is("line", x.line(0), 0);
            x = Due.opened(kind, 97, 10);
            Due.is("with a 10", x.readLine(0, 1), 1);
            Due.is("line", x.line(0), 1);
            Due.is("nothing is left", x.readLine(0, 1), -1);
        }
    }

    /** A 13 of a kind that is not LINED is no end of line. */
    private static void readLineLeaves13() {
        for (int kind : new int[] {0, 1, 3, 4}) {
            Layerwell x = Due.opened(kind, 97, 13, 10, 13, 98);
            Due.is("readLine", x.readLine(0, 1), 2);
            Due.isSource("readLine", x, 1, 97, 13);
            Due.is("readLine", x.readLine(0, 1), 2);
            Due.isSource("readLine", x, 1, 13, 98);
        }
    }

    /** A line goes on over the seam. */
    private static void readLineOverTheSeam() {
        for (int kind : Want.OF_TWO) {
            Layerwell x = Due.with(97, 98);
            Due.fill(x, 1, 99, 10, 100);
            x.open(0, kind, 0, 1);
            Due.is("readLine", x.readLine(0, 2), 3);
            Due.isSource("readLine", x, 2, 97, 98, 99);
            Due.isRest("readLine", x, 0, 100);
        }
    }

    /** "-1 if there is none left, and the source stays." */
    private static void readLineOfNoneLeavesTheSource() {
        for (int kind = 0; kind < 8; kind++) {
            Layerwell x = seamed(kind);
            x.skip(0, 200);
            Due.fill(x, 1, 5, 6);
            Due.is("readLine", x.readLine(0, 1), -1);
            Due.isSource("readLine", x, 1, 5, 6);
            x = Due.opened(kind);
            Due.fillMany(x, 1, 5, 120);
            Due.is("readLine of an empty one", x.readLine(0, 1), -1);
            Due.isSource("a full one", x, 1, Want.many(5, 120));
        }
    }

    /** "Throws IllegalStateException if it would have more than 120": 120 are not more */
    private static void readLineOf120() {
        for (int kind : Want.OF_TWO) {
            Layerwell x = sevens(kind, 120, 0);
            Due.is("120 that are left", x.readLine(0, 2), 120);
            Due.isSource("120 that are left", x, 2, Want.many(7, 120));
            Due.is("120 and a 10", overSeam(kind, 119, 7, 10, 8).readLine(0, 2), 120);
            x = overSeam(kind, 120, 10, 8);
            Due.is("120 and a 10 behind the seam", x.readLine(0, 2), 120);
            Due.isRest("the 10 is read", x, 0, 8);
        }
    }

    /** "Throws IllegalStateException if it would have more than 120; nothing is read then" */
    private static void readLineRefusesMoreThan120() {
        for (int kind : Want.OF_TWO) {
            for (int to = 0; to < 4; to++) {
                int source = to;
                Due.isRefused(Due.FULL, () -> overSeam(kind, 120, 7), "121 that are left",
                        x -> x.readLine(0, source));
                Due.isRefused(Due.FULL, () -> overSeam(kind, 120, 7, 10), "121 and a 10",
                        x -> x.readLine(0, source));
            }
            Due.isRefused(Due.FULL, () -> sevens(kind, 120, 120), "240", x -> x.readLine(0, 3));
        }
    }

    /** Nothing is read then, and when there are 120 it is read. */
    private static void readLineOf120BehindARefusedOne() {
        for (int kind : Want.OF_TWO) {
            Layerwell x = overSeam(kind, 120, 7, 10, 8);
            Due.is("121", Due.thrownBy(x, y -> y.readLine(0, 3)), Due.FULL.getName());
            Due.is("read", x.read(0), 7);
            Due.is("120", x.readLine(0, 3), 120);
            Due.is("the next one", x.readLine(0, 3), 1);
        }
    }

    private static Layerwell overSeam(int kind, int sevens, int... bytes) {
        Layerwell x = Due.withMany(7, sevens);
        Due.fill(x, 1, bytes);
        x.open(0, kind, 0, 1);
        return x;
    }

    /** "Throws IndexOutOfBoundsException if there is no such stream or source" */
    private static void readLineRefusesNoStreamOrSource() {
        Due.isRefusedOutside0To3("readLine", (x, stream) -> x.readLine(stream, 0));
        Due.isRefusedOutside0To3("readLine to", (x, source) -> x.readLine(0, source));
    }

    /** "Throws UnsupportedOperationException if it is not open" */
    private static void readLineRefusesAStreamThatIsNotOpen() {
        Due.isRefusedIfNotOpen("readLine", (x, stream) -> x.readLine(stream, 0));
    }

    /** "If several exceptions apply, the one that is documented first is thrown." */
    private static void readLineThrowsInOrder() {
        Due.isRefusedOutside0To3("not open, to", (x, source) -> x.readLine(3, source));
        Due.isRefusedOutside0To3("more than 120, to", (x, source) -> x.readLine(2, source));
        Due.isRefused(Due.NO_PLACE, () -> Due.opened(0), "nothing is left, to", x -> x.readLine(0, 4));
    }

    // Promise 17: pour

    /** "Reads all bytes that are left; a source becomes them. [...] Returns how many these are.": at each place */
    private static void pourAtEachPlace() {
        for (int kind = 0; kind < 8; kind++) {
            int[] out = Want.out(kind, A, B);
            for (int place = 0; place <= out.length; place++) {
                Layerwell x = seamed(kind);
                Due.fillMany(x, 3, 5, 120);
                x.skip(0, place);
                Due.is("pour", x.pour(0, 3), out.length - place);
                Due.isSource("pour", x, 3, Want.from(out, place));
                Due.is("nothing is left", x.read(0), -1);
            }
        }
    }

    /** "to": each source, also one that the stream was opened of */
    private static void pourTakesEachSource() {
        for (int to = 0; to < 4; to++) {
            Layerwell x = Due.opened(4, 97, 13, 10, 98);
            x.read(0);
            Due.is("pour", x.pour(0, to), 3);
            Due.isSource("pour", x, to, 13, 10, 98);
        }
    }

    /** A stream that has nothing left: none, and the source becomes none */
    private static void pourWithNothingLeft() {
        for (int kind = 0; kind < 8; kind++) {
            Layerwell x = seamed(kind);
            x.skip(0, 200);
            Due.is("pour", x.pour(0, 0), 0);
            Due.isSource("pour", x, 0);
            x = Due.opened(kind);
            Due.fillMany(x, 1, 5, 120);
            Due.is("pour of an empty one", x.pour(0, 1), 0);
            Due.isSource("pour of an empty one", x, 1);
        }
    }

    /** Poured bytes are passed ones: line numbers and checks count them. */
    private static void pourCounts() {
        Layerwell x = seamed(6);
        x.pour(0, 2);
        Due.is("line", x.line(0), 2);
        Due.is("check", x.check(0), Want.check(97, 10, 10));
        Due.is("the part is none", x.partLength(), 0);
    }

    /** "Throws IllegalStateException if it would have more than 120": 120 are not more */
    private static void pour120() {
        for (int kind = 0; kind < 8; kind++) {
            Layerwell x = sevens(kind, 120, 0);
            Due.is("120", x.pour(0, 2), 120);
            Due.isSource("120", x, 2, Want.many(7, 120));
        }
        for (int kind : Want.OF_TWO) {
            Layerwell x = overSeam(kind, 119, 8);
            Due.is("120 over the seam", x.pour(0, 2), 120);
            Due.isSource("120", x, 2, Want.joined(Want.many(7, 119), new int[] {8}));
        }
    }

    /** LINED is what counts: 121 bytes of the sources may be 120 that come out. */
    private static void pour121ThatAre120Lined() {
        for (int kind : new int[] {5, 7}) {
            Layerwell x = Due.with(13, 10);
            Due.fillMany(x, 1, 7, 119);
            x.open(0, kind, 0, 1);
            Due.is("pour", x.pour(0, 2), 120);
        }
        Due.isRefused(Due.FULL, StreamsTest::joined121, "pour", x -> x.pour(0, 2));
    }

    private static Layerwell joined121() {
        Layerwell x = Due.with(13, 10);
        Due.fillMany(x, 1, 7, 119);
        x.open(0, 4, 0, 1);
        return x;
    }

    /** "Throws IllegalStateException if it would have more than 120; nothing is read then" */
    private static void pourRefusesMoreThan120() {
        for (int kind : Want.OF_TWO) {
            for (int to = 0; to < 4; to++) {
                int source = to;
                Due.isRefused(Due.FULL, () -> overSeam(kind, 120, 7), "121", x -> x.pour(0, source));
                Due.isRefused(Due.FULL, () -> sevens(kind, 120, 120), "240", x -> x.pour(0, source));
            }
            Due.isRefused(Due.FULL, () -> overSeam(kind, 119, 10, 10), "121 with a 10", x -> x.pour(0, 3));
        }
    }

    /** Nothing is read then, and when 120 are left they are. */
    private static void pour120BehindARefusedOne() {
        for (int kind : Want.OF_TWO) {
            Layerwell x = overSeam(kind, 120, 8);
            Due.is("121", Due.thrownBy(x, y -> y.pour(0, 3)), Due.FULL.getName());
            Due.is("read", x.read(0), 7);
            Due.is("120", x.pour(0, 3), 120);
            Due.is("the last of them", x.byteAt(3, 119), 8);
        }
    }

    /** "Throws IndexOutOfBoundsException if there is no such stream or source" */
    private static void pourRefusesNoStreamOrSource() {
        Due.isRefusedOutside0To3("pour", (x, stream) -> x.pour(stream, 0));
        Due.isRefusedOutside0To3("pour to", (x, source) -> x.pour(0, source));
    }

    /** "Throws UnsupportedOperationException if it is not open" */
    private static void pourRefusesAStreamThatIsNotOpen() {
        Due.isRefusedIfNotOpen("pour", (x, stream) -> x.pour(stream, 0));
    }

    /** "If several exceptions apply, the one that is documented first is thrown." */
    private static void pourThrowsInOrder() {
        Due.isRefusedOutside0To3("not open, to", (x, source) -> x.pour(3, source));
        Due.isRefusedOutside0To3("more than 120, to", (x, source) -> x.pour(2, source));
        Due.isRefused(Due.NO_PLACE, () -> Due.opened(0), "nothing is left, to", x -> x.pour(0, 4));
    }

    // Promise 18: alike

    /** "as long as both have a byte, and it is the same [...] Returns how many bytes were the same." */
    private static void alikeOfEachShortRow() {
        for (int[] a : Want.rowsUpTo(3)) {
            for (int[] b : Want.rowsUpTo(3)) {
                int same = 0;
                while (same < a.length && same < b.length && a[same] == b[same]) {
                    same++;
                }
                isAlike(a, b, same, Want.from(a, same + 1).length, Want.from(b, same + 1).length);
            }
        }
    }

    private static void isAlike(int[] a, int[] b, int same, int leftOfFirst, int leftOfOther) {
        Layerwell x = Due.with(a);
        Due.fill(x, 1, b);
        x.open(2, 0, 0, 0);
        x.open(3, 1, 1, 1);
        Due.is("alike", x.alike(2, 3), same);
        Due.is("left of the first one", x.left(2), leftOfFirst);
        Due.is("left of the other one", x.left(3), leftOfOther);
    }

    /** "what is read in the last turn stays read.": a byte that is not the same is read of both */
    private static void alikeReadsTheLastTurn() {
        isAlike(new int[] {1, 2, 3, 4, 5}, new int[] {1, 2, 9, 4}, 2, 2, 1);
        isAlike(new int[] {1, 2}, new int[] {2, 1}, 0, 1, 1);
        isAlike(new int[] {0}, new int[] {255}, 0, 0, 0);
    }

    /** "and one of the other one, also if the first one has none" */
    private static void alikeReadsTheOtherOneIfTheFirstOneHasNone() {
        isAlike(Want.NOTHING, new int[] {1, 2, 3}, 0, 0, 2);
        isAlike(new int[] {1, 2}, new int[] {1, 2, 3, 4}, 2, 0, 1);
        isAlike(new int[] {1, 2}, new int[] {1, 2, 3}, 2, 0, 0);
    }

    /** The other one has none: the byte of the first one stays read. */
    private static void alikeReadsTheFirstOneIfTheOtherOneHasNone() {
        isAlike(new int[] {1, 2, 3}, Want.NOTHING, 0, 2, 0);
        isAlike(new int[] {1, 2, 3, 4}, new int[] {1, 2}, 2, 1, 0);
    }

    /** Both end at once, or have nothing left at first. */
    private static void alikeIfBothEnd() {
        isAlike(Want.NOTHING, Want.NOTHING, 0, 0, 0);
        isAlike(new int[] {1, 2, 3}, new int[] {1, 2, 3}, 3, 0, 0);
        Layerwell x = Due.opened(0, 1, 2);
        x.open(1, 0, 0, 0);
        x.alike(0, 1);
        Due.is("alike again", x.alike(0, 1), 0);
    }

    /** Sources with 120 bytes, and OUTs of 240 */
    private static void alikeOfFullSources() {
        isAlike(Want.many(10, 120), Want.many(10, 120), 120, 0, 0);
        isAlike(Want.many(10, 119), Want.many(10, 120), 119, 0, 0);
        isAlike(Want.many(10, 120), Want.many(10, 119), 119, 0, 0);
        Layerwell x = Due.withMany(10, 120);
        x.open(0, 5, 0, 0);
        x.open(1, 4, 0, 0);
        Due.is("alike", x.alike(0, 1), 240);
        Due.is("line", x.line(0), 240);
    }

    /** Bytes that are read are passed: line numbers and checks of both count them, of the last turn, too. */
    private static void alikeCounts() {
        Layerwell x = Due.with(97, 10, 98);
        Due.fill(x, 1, 97, 10, 10, 99);
        x.open(0, 6, 0, 0);
        x.open(1, 6, 1, 1);
        Due.is("alike", x.alike(0, 1), 2);
        Due.is("line of the first one", x.line(0), 1);
        Due.is("line of the other one", x.line(1), 2);
        Due.is("check of the first one", x.check(0), Want.check(97, 10, 98));
        Due.is("check of the other one", x.check(1), Want.check(97, 10, 10));
        Due.is("none of the first one", x.alike(0, 1), 0);
        Due.is("check of the other one", x.check(1), Want.check(97, 10, 10, 99));
    }

    /** "stream: 0 to 3", "other: another one": each pair, from where they are */
    private static void alikeOfEachPair() {
        for (int stream = 0; stream < 4; stream++) {
            for (int other = 0; other < 4; other++) {
                if (stream != other) {
                    Layerwell x = Due.with(8, 1, 2, 3);
                    x.open(stream, 3, 0, 0);
                    x.open(other, 7, 0, 1);
                    x.skip(stream, 1);
                    x.skip(other, 1);
                    Due.is("alike", x.alike(stream, other), 3);
                }
            }
        }
    }

    /** "Throws IndexOutOfBoundsException if there is no such stream" */
    private static void alikeRefusesNoStream() {
        Due.isRefusedOutside0To3("alike", (x, stream) -> x.alike(stream, 0));
        Due.isRefusedOutside0To3("alike, other", (x, stream) -> x.alike(0, stream));
    }

    /** "Throws IllegalArgumentException if both are the same stream" */
    private static void alikeRefusesTheSame() {
        for (int i = 0; i < 4; i++) {
            int stream = i;
            Due.isRefused(Due.NO_ARGUMENT, Due::rich, "alike", x -> x.alike(stream, stream));
        }
        Due.isRefused(Due.NO_ARGUMENT, () -> Due.opened(0), "alike with nothing left", x -> x.alike(0, 0));
    }

    /** "Throws UnsupportedOperationException if one is not open" */
    private static void alikeRefusesAStreamThatIsNotOpen() {
        for (int i = 0; i < 3; i++) {
            int stream = i;
            Due.isRefused(Due.NOT_ABLE, Due::rich, "the first one is not open", x -> x.alike(3, stream));
            Due.isRefused(Due.NOT_ABLE, Due::rich, "the other one is not open", x -> x.alike(stream, 3));
        }
        Due.isRefused(Due.NOT_ABLE, Layerwell::new, "none is open", x -> x.alike(0, 1));
    }

    /** "If several exceptions apply, the one that is documented first is thrown." */
    private static void alikeThrowsInOrder() {
        Due.isRefusedOutside0To3("the same", (x, stream) -> x.alike(stream, stream));
        Due.isRefusedOutside0To3("the other one is not open", (x, stream) -> x.alike(stream, 3));
        Due.isRefusedOutside0To3("the first one is not open", (x, stream) -> x.alike(3, stream));
        Due.isRefused(Due.NO_ARGUMENT, Layerwell::new, "the same, not open", x -> x.alike(0, 0));
        Due.isRefused(Due.NO_ARGUMENT, Due::rich, "the same, not open", x -> x.alike(3, 3));
    }
}
