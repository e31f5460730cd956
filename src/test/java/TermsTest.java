import java.util.List;

/** "Terms": sources, kinds, streams, parts and exceptions. Above each test stands the sentence that it is for. */
public final class TermsTest {
    public static void main(String[] args) {
        Due.runAll(TermsTest.class);
    }

    // Part 1, sources

    /** "There are the sources 0 to 3, each a row of at most 120 bytes" */
    private static void eachSourceHolds120Bytes() {
        for (int source = 0; source < 4; source++) {
            Layerwell x = new Layerwell();
            for (int i = 0; i < 120; i++) {
                x.type(source, i + source);
            }
            for (int i = 0; i < 120; i++) {
                Due.is("byteAt", x.byteAt(source, i), i + source);
            }
            for (int other = 0; other < 4; other++) {
                Due.is("length", x.length(other), other == source ? 120 : 0);
            }
        }
    }

    /** All four at once hold 120 bytes. */
    private static void allSourcesHold120Bytes() {
        Layerwell x = new Layerwell();
        for (int source = 0; source < 4; source++) {
            Due.fillMany(x, source, source + 1, 120);
        }
        for (int source = 0; source < 4; source++) {
            Due.is("length", x.length(source), 120);
            Due.is("the first", x.byteAt(source, 0), source + 1);
            Due.is("the last", x.byteAt(source, 119), source + 1);
            Due.is("checkOf", x.checkOf(source), Want.check(Want.many(source + 1, 120)));
        }
    }

    /** "There are the sources 0 to 3": each call takes each of them. */
    private static void eachCallTakesEachSource() {
        for (int source = 0; source < 4; source++) {
            Layerwell x = new Layerwell();
            Due.is("type", x.type(source, 13), 1);
            Due.is("typeMany", x.typeMany(source, 97, 3), 4);
            Due.is("length", x.length(source), 4);
            Due.is("byteAt", x.byteAt(source, 0), 13);
            Due.is("ends", x.ends(source), 1);
            Due.is("checkOf", x.checkOf(source), Want.check(13, 97, 97, 97));
            Due.is("share", x.share(source), 0.25f);
            Due.is("open", x.open(0, 4, source, source), 8);
            Due.is("pour", x.pour(0, source), 8);
            Due.is("open", x.open(0, 2, source, source), 8);
            Due.is("readLine", x.readLine(0, source), 0);
            Due.is("readLine", x.readLine(0, source), 3);
            Due.is("cut", x.cut(source), 97);
            Due.is("clear", x.clear(source), 2);
            Due.is("isTrue", x.isTrue(), true);
        }
    }

    // Part 2, kinds

    /** "LINED, a row of bytes has instead of each 13 that 10 follows, together with that, [...] one byte 10" */
    private static void linedOf13And10() {
        isLined(new int[] {13, 10}, 10);
        isLined(new int[] {97, 13, 10, 98}, 97, 10, 98);
        isLined(new int[] {13, 10, 13, 10}, 10, 10);
        isLined(new int[] {13, 13, 10, 10}, 10, 10, 10);
    }

    /** "instead of each other 13 [...] one byte 10" */
    private static void linedOf13() {
        isLined(new int[] {13}, 10);
        isLined(new int[] {13, 97}, 10, 97);
        isLined(new int[] {97, 13}, 97, 10);
        isLined(new int[] {13, 13}, 10, 10);
        isLined(new int[] {13, 97, 10}, 10, 97, 10);
    }

    /** "and instead of each other 10 one byte 10" */
    private static void linedOf10() {
        isLined(new int[] {10}, 10);
        isLined(new int[] {10, 13}, 10, 10);
        isLined(new int[] {10, 10}, 10, 10);
    }

    /** "all others stay." */
    private static void linedOfOtherBytes() {
        for (int number = 0; number < 256; number++) {
            if (number != 10 && number != 13) {
                isLined(new int[] {number}, number);
                isLined(new int[] {13, number, 10}, 10, number, 10);
                isLined(new int[] {number, 13, 10, number}, number, 10, number);
            }
        }
    }

    /** A row that is empty, and rows with 120 bytes */
    private static void linedOfNoneAnd120() {
        isLined(Want.NOTHING);
        isLined(Want.many(13, 120), Want.many(10, 120));
        isLined(Want.many(10, 120), Want.many(10, 120));
        isLined(Want.many(97, 120), Want.many(97, 120));
        int[] both = Want.many(13, 120);
        for (int i = 1; i < 120; i += 2) {
            both[i] = 10;
        }
        isLined(both, Want.many(10, 60));
    }

    private static void isLined(int[] row, int... lined) {
        for (int kind : new int[] {2, 5, 6, 7}) {
            Due.isRest("kind " + kind, Due.opened(kind, row), 0, lined);
        }
        Layerwell x = new Layerwell();
        Due.fill(x, 2, row);
        x.open(1, 7, 3, 2);
        Due.isRest("the second source of kind 7", x, 1, lined);
    }

    /** "The OUT of a stream is, by its kind, of the first source a, and of the second one b": all short ones */
    private static void outOfEachKind() {
        List<int[]> rows = Want.rowsUpTo(3);
        for (int[] a : rows) {
            for (int[] b : rows) {
                Layerwell x = new Layerwell();
                Due.fill(x, 1, a);
                Due.fill(x, 2, b);
                for (int kind = 0; kind < 8; kind++) {
                    x.open(3, kind, 1, 2);
                    Due.isRest("kind " + kind, x, 3, Want.out(kind, a, b));
                }
            }
        }
    }

    /** The seam: a 13 at the end of the first source, a 10 at the begin of the second one */
    private static void outAtTheSeam() {
        Layerwell x = Due.with(97, 13);
        Due.fill(x, 1, 10, 98);
        int[][] outs = {{97, 13}, {97, 13}, {97, 10}, {97, 13},
            {97, 13, 10, 98}, {97, 10, 98}, {97, 10}, {97, 10, 10, 98}};
        for (int kind = 0; kind < 8; kind++) {
            x.open(0, kind, 0, 1);
            Due.isRest("kind " + kind, x, 0, outs[kind]);
        }
    }

    /** Both sources empty, one of them empty, both with 120 bytes */
    private static void outOfEmptyAndFullSources() {
        int[][] rows = {Want.NOTHING, Want.many(97, 120), Want.many(13, 120), Want.many(10, 120)};
        for (int[] a : rows) {
            for (int[] b : rows) {
                for (int kind = 0; kind < 8; kind++) {
                    Layerwell x = new Layerwell();
                    Due.fill(x, 0, a);
                    Due.fill(x, 1, b);
                    x.open(0, kind, 0, 1);
                    Due.isRest("kind " + kind, x, 0, Want.out(kind, a, b));
                }
            }
        }
    }

    /** One source as the first one and as the second one */
    private static void outOfOneSourceTwice() {
        int[] row = {10, 97, 13};
        for (int kind = 0; kind < 8; kind++) {
            Layerwell x = Due.with(row);
            x.open(0, kind, 0, 0);
            Due.isRest("kind " + kind, x, 0, Want.out(kind, row, row));
        }
    }

    /** "1 TEXT, a, as a text of these signs", each of 0 to 255 */
    private static void outOfEachByte() {
        for (int kind = 0; kind < 8; kind++) {
            for (int number = 0; number < 256; number++) {
                int[] row = {number};
                Due.isRest("kind " + kind, Due.opened(kind, row), 0, Want.out(kind, row, Want.NOTHING));
            }
        }
    }

    /** "as they are when it is opened": "What becomes of a source later changes nothing of it." */
    private static void outStaysWhenSourcesChange() {
        int[] a = {97, 13};
        int[] b = {10, 98, 10};
        for (int kind = 0; kind < 8; kind++) {
            Layerwell x = Due.with(a);
            Due.fill(x, 1, b);
            x.open(0, kind, 0, 1);
            x.read(0);
            x.cut(0);
            x.type(0, 1);
            x.typeMany(0, 2, 3);
            x.clear(1);
            x.type(1, 3);
            Due.isRest("kind " + kind, x, 0, Want.from(Want.out(kind, a, b), 1));
        }
    }

    /** The same, of a source that becomes a line, or what is left, of that very stream */
    private static void outStaysWhenItsSourceBecomesALine() {
        int[] a = {97, 10, 98, 10, 99};
        for (int kind = 0; kind < 4; kind++) {
            Layerwell x = Due.opened(kind, a);
            Due.is("readLine", x.readLine(0, 0), 1);
            Due.isSource("readLine", x, 0, 97);
            Due.is("readLine", x.readLine(0, 0), 1);
            Due.isSource("readLine", x, 0, 98);
            Due.is("pour", x.pour(0, 0), 1);
            Due.isSource("pour", x, 0, 99);
        }
    }

    /** "Kinds 2, 5 and 6 have a line number, 3 and 6 a check." */
    private static void whatKindsHave() {
        for (int kind = 0; kind < 8; kind++) {
            Layerwell x = Due.opened(kind, 10);
            boolean hasLine = kind == 2 || kind == 5 || kind == 6;
            boolean hasCheck = kind == 3 || kind == 6;
            String notAble = Due.NOT_ABLE.getName();
            Due.is("line of kind " + kind, Due.thrownBy(x, y -> y.line(0)), hasLine ? "the answer 0" : notAble);
            Due.is("check of kind " + kind, Due.thrownBy(x, y -> y.check(0)), hasCheck ? "the answer 0" : notAble);
        }
    }

    // Part 3, streams

    /** "There are the streams 0 to 3, not open at first.": each is one of its own */
    private static void streamsAreOfTheirOwn() {
        Layerwell x = Due.with(1, 2, 3, 4, 5);
        for (int stream = 0; stream < 4; stream++) {
            x.open(stream, 0, 0, 0);
        }
        for (int stream = 0; stream < 4; stream++) {
            Due.is("skip", x.skip(stream, stream), stream);
        }
        for (int stream = 0; stream < 4; stream++) {
            Due.is("left", x.left(stream), 5 - stream);
            Due.is("read", x.read(stream), 1 + stream);
        }
    }

    /** "There are the streams 0 to 3": each call takes each of them. */
    private static void eachCallTakesEachStream() {
        for (int stream = 0; stream < 4; stream++) {
            Layerwell x = Due.with(10, 1, 10, 2, 3, 10, 4, 5);
            Due.is("open", x.open(stream, 6, 0, 0), 8);
            Due.is("kind", x.kind(stream), 6);
            Due.is("canMark", x.canMark(stream), true);
            Due.is("read", x.read(stream), 10);
            Due.is("readPart", x.readPart(stream, 1), 1);
            Due.is("skip", x.skip(stream, 1), 1);
            Due.is("line", x.line(stream), 2);
            Due.is("mark", x.mark(stream), 2);
            Due.is("readLine", x.readLine(stream, 1), 2);
            Due.is("setLine", x.setLine(stream, 5), 3);
            Due.is("meanLine", x.meanLine(), 5.0);
            Due.is("check", x.check(stream), Want.check(10, 1, 10, 2, 3, 10));
            Due.is("checkAnew", x.checkAnew(stream), Want.check(10, 1, 10, 2, 3, 10));
            Due.is("pour", x.pour(stream, 1), 2);
            Due.is("back", x.back(stream), 2);
            x.open((stream + 1) % 4, 0, 1, 1);
            Due.is("alike", x.alike(stream, (stream + 1) % 4), 0);
            Due.is("left", x.left((stream + 1) % 4), 1);
        }
    }

    /** Line numbers, checks and marks of their own */
    private static void streamsHaveTheirOwnFigures() {
        Layerwell x = Due.with(10, 10, 10, 10);
        for (int stream = 0; stream < 4; stream++) {
            x.open(stream, 6, 0, 0);
            x.skip(stream, stream);
            x.mark(stream);
            x.setLine(stream, 100 * stream);
            x.read(stream);
        }
        for (int stream = 0; stream < 4; stream++) {
            Due.is("line", x.line(stream), 100 * stream + 1);
            Due.is("check", x.check(stream), Want.check(Want.many(10, stream + 1)));
            Due.is("back", x.back(stream), stream);
            Due.is("rest", x.skip(stream, 9), 4 - stream);
        }
    }

    /** "An open one has a place in its OUT, 0 at first" */
    private static void thePlaceIs0AtFirst() {
        for (int kind = 0; kind < 8; kind++) {
            Due.is("read", Due.opened(kind, 65, 66).read(0), 65);
            Due.is("read of an empty one", Due.opened(kind).read(0), -1);
        }
    }

    /** "to pass a byte is to go on to the next place.", by every call that passes bytes */
    private static void eachCallGoesOn() {
        for (int kind = 0; kind < 8; kind++) {
            Layerwell x = Due.opened(kind, 1, 2, 3, 4, 5, 10, 7, 8, 9);
            x.open(1, kind, 2, 2);
            Due.is("read", x.read(0), 1);
            Due.is("readPart", x.readPart(0, 1), 1);
            Due.is("skip", x.skip(0, 1), 1);
            Due.is("readLine", x.readLine(0, 3), 2);
            Due.is("alike", x.alike(0, 1), 0);
            Due.is("pour", x.pour(0, 3), 2);
            Due.isSource("pour", x, 3, 8, 9);
            Due.is("read", x.read(0), -1);
        }
    }

    /** "Its line number [...] is 0 at first, and one more for each byte 10 that is passed." */
    private static void theLineNumberCountsEach10() {
        for (int kind : Want.WITH_LINES) {
            for (int[] row : Want.rowsUpTo(4)) {
                Layerwell x = Due.opened(kind, row);
                int line = 0;
                Due.is("line at first", x.line(0), line);
                for (int number : Want.lined(row)) {
                    x.read(0);
                    line += number == 10 ? 1 : 0;
                    Due.is("line", x.line(0), line);
                }
                x.read(0);
                Due.is("line behind the end", x.line(0), line);
            }
        }
    }

    /** "an int that goes round", by every call that passes bytes */
    private static void theLineNumberGoesRound() {
        for (int kind : Want.WITH_LINES) {
            Layerwell x = Due.withMany(10, 9);
            x.open(1, 0, 0, 0);
            x.open(0, kind, 0, 3);
            goesRound("read", x, () -> x.read(0), 1);
            goesRound("readPart", x, () -> x.readPart(0, 2), 2);
            goesRound("skip", x, () -> x.skip(0, 2), 2);
            goesRound("readLine", x, () -> x.readLine(0, 3), 1);
            x.skip(1, 8);
            goesRound("alike", x, () -> x.alike(0, 1), 2);
            goesRound("pour", x, () -> x.pour(0, 3), 1);
        }
    }

    private static void goesRound(String call, Layerwell x, Runnable passing, int lines) {
        x.setLine(0, Integer.MAX_VALUE);
        passing.run();
        Due.is("line behind " + call, x.line(0), Integer.MIN_VALUE + lines - 1);
    }

    /** "Its check is that of the bytes passed since it was opened", by every call that passes bytes */
    private static void theCheckIsThatOfTheBytesPassed() {
        for (int kind : Want.WITH_CHECK) {
            int[] row = {1, 2, 3, 4, 5, 10, 7, 8, 9};
            Layerwell x = Due.opened(kind, row);
            x.open(1, kind, 2, 2);
            Due.is("check at first", x.check(0), 0);
            x.read(0);
            isCheckOf(x, row, 1);
            x.readPart(0, 2);
            isCheckOf(x, row, 3);
            x.skip(0, 1);
            isCheckOf(x, row, 4);
            x.readLine(0, 3);
            isCheckOf(x, row, 6);
            x.alike(0, 1);
            isCheckOf(x, row, 7);
            x.pour(0, 3);
            isCheckOf(x, row, 9);
            x.read(0);
            isCheckOf(x, row, 9);
        }
    }

    private static void isCheckOf(Layerwell x, int[] row, int many) {
        Due.is("check of " + many, x.check(0), Want.check(java.util.Arrays.copyOf(row, many)));
    }

    /** "or its check was begun anew." */
    private static void theCheckIsOfTheBytesPassedSinceItWasBegunAnew() {
        for (int kind : Want.WITH_CHECK) {
            Layerwell x = Due.opened(kind, 1, 2, 3, 4);
            x.skip(0, 1);
            x.checkAnew(0);
            Due.is("check", x.check(0), 0);
            x.skip(0, 2);
            Due.is("check", x.check(0), Want.check(2, 3));
            x.open(0, kind, 0, 0);
            Due.is("check of a stream opened again", x.check(0), 0);
        }
    }

    /** "a number of 32 bits without a sign is 4294967295 at first; [...] at the end 4294967295 less it." */
    private static void theSmallestAndTheLargestCheck() {
        Due.is("check of no byte", new Layerwell().checkOf(0), 0L);
        Due.is("check of 255 255 255 255", Due.withMany(255, 4).checkOf(0), 4294967295L);
        Layerwell x = Due.opened(3, 255, 255, 255, 255);
        x.skip(0, 4);
        Due.is("the same of a stream", x.check(0), 4294967295L);
        Due.is("and begun anew", x.checkAnew(0), 4294967295L);
    }

    /** "for each byte in order [...]": each byte alone, and as the second one */
    private static void theCheckOfEachByte() {
        for (int number = 0; number < 256; number++) {
            Layerwell x = Due.with(number);
            Due.is("check of " + number, x.checkOf(0), Want.check(number));
            x.type(0, 255 - number);
            Due.is("check of two", x.checkOf(0), Want.check(number, 255 - number));
        }
    }

    /** The table that is known of CRC-32C */
    private static void theCheckOfKnownRows() {
        Due.is("of digits", Due.with(49, 50, 51, 52, 53, 54, 55, 56, 57).checkOf(0), 0xE3069283L);
        Due.is("of 32 times 0", Due.withMany(0, 32).checkOf(0), 0x8A9136AAL);
        Due.is("of 32 times 255", Due.withMany(255, 32).checkOf(0), 0x62A8AB43L);
    }

    // Part 4, parts

    /** "A part is the row of bytes that was read last by readPart(), of any stream" */
    private static void thePartIsTheLastOne() {
        Layerwell x = Due.with(1, 2, 3);
        x.open(0, 0, 0, 0);
        x.open(3, 1, 0, 0);
        x.readPart(0, 2);
        Due.isPart("of stream 0", x, 1, 2);
        x.readPart(3, 1);
        Due.isPart("of stream 3", x, 1);
        x.readPart(0, 64);
        Due.isPart("of stream 0 again", x, 3);
    }

    /** Nothing but readPart() changes the part. */
    private static void thePartStays() {
        Layerwell x = Due.with(1, 2, 3, 4, 5, 10, 7, 8);
        x.open(0, 2, 0, 0);
        x.open(1, 0, 0, 0);
        x.readPart(0, 2);
        x.mark(0);
        x.read(0);
        x.skip(0, 1);
        x.readLine(0, 1);
        x.alike(0, 1);
        x.pour(0, 1);
        x.back(0);
        x.open(0, 3, 1, 1);
        x.clear(0);
        x.clear(1);
        x.checkAnew(0);
        x.isTrue();
        Due.isPart("the part", x, 1, 2);
    }

    // Exceptions

    /** "A method that throws an exception changes nothing.": many refused calls, one behind the other */
    private static void refusedCallsChangeNothing() {
        Layerwell x = Due.rich();
        for (int number : new int[] {-1, 4, 300}) {
            Due.thrownBy(x, y -> y.type(number, 1));
            Due.thrownBy(x, y -> y.type(2, 1));
            Due.thrownBy(x, y -> y.typeMany(2, 1, 1));
            Due.thrownBy(x, y -> y.typeMany(1, 300, 1));
            Due.thrownBy(x, y -> y.cut(3));
            Due.thrownBy(x, y -> y.open(0, 8, 0, 0));
            Due.thrownBy(x, y -> y.open(1, 0, number, 0));
            Due.thrownBy(x, y -> y.open(1, 0, 0, number));
            Due.thrownBy(x, y -> y.readPart(0, 65));
            Due.thrownBy(x, y -> y.readPart(3, 1));
            Due.thrownBy(x, y -> y.skip(0, 201));
            Due.thrownBy(x, y -> y.readLine(2, 0));
            Due.thrownBy(x, y -> y.readLine(0, number));
            Due.thrownBy(x, y -> y.pour(2, 0));
            Due.thrownBy(x, y -> y.pour(0, number));
            Due.thrownBy(x, y -> y.alike(0, 0));
            Due.thrownBy(x, y -> y.alike(0, 3));
            Due.thrownBy(x, y -> y.mark(2));
            Due.thrownBy(x, y -> y.back(2));
            Due.thrownBy(x, y -> y.setLine(1, 5));
            Due.thrownBy(x, y -> y.checkAnew(2));
        }
        Due.is("all that can be seen", Look.at(x), Look.at(Due.rich()));
    }
}
