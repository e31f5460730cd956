import java.util.NoSuchElementException;

/** Promises 1 to 8: a new object and its sources. Above each test stands the sentence that it is for. */
public final class SourcesTest {
    private static final Class<NoSuchElementException> NO_BYTES = NoSuchElementException.class;
    // 266 and -246 would be 10, and 269 would be 13, if a byte were all that is kept of them.
    private static final int[] NO_BYTE = {-1, 256, 266, 269, -246, Integer.MIN_VALUE, Integer.MAX_VALUE};

    public static void main(String[] args) {
        Due.runAll(SourcesTest.class);
    }

    // Promise 1: a new object

    /** "Creates empty sources" */
    private static void aNewObjectHasEmptySources() {
        Layerwell x = new Layerwell();
        for (int i = 0; i < 4; i++) {
            int source = i;
            Due.is("length", x.length(i), 0);
            Due.is("ends", x.ends(i), 0);
            Due.is("checkOf", x.checkOf(i), 0);
            Due.isRefused(Due.NO_PLACE, Layerwell::new, "byteAt", y -> y.byteAt(source, 0));
        }
    }

    /** "and no open stream." */
    private static void aNewObjectHasNoOpenStream() {
        Layerwell x = new Layerwell();
        for (int i = 0; i < 4; i++) {
            int stream = i;
            Due.is("kind", x.kind(i), -1);
            Due.isRefused(Due.NOT_ABLE, Layerwell::new, "read", y -> y.read(stream));
        }
    }

    /** "A part is [...], none at first." */
    private static void aNewObjectHasNoPart() {
        Due.is("partLength", new Layerwell().partLength(), 0);
        Due.isRefused(Due.NO_PLACE, Layerwell::new, "partAt", y -> y.partAt(0));
    }

    /** Each object has sources, streams and a part of its own. */
    private static void objectsShareNothing() {
        Layerwell x = Due.rich();
        Layerwell y = new Layerwell();
        String before = Look.at(Due.rich());
        Due.is("length", y.length(0), 0);
        Due.is("kind", y.kind(0), -1);
        Due.is("partLength", y.partLength(), 0);
        Due.fillMany(y, 0, 10, 120);
        y.open(0, 2, 0, 0);
        y.readPart(0, 64);
        y.mark(0);
        Due.is("the other one", Look.at(x), before);
    }

    /** "An object is used for at most 512 calls": the last of these is answered as the first. */
    private static void anObjectAnswers512Calls() {
        Layerwell x = new Layerwell();
        for (int i = 0; i < 255; i++) {
            Due.is("type", x.type(3, i), 1);
            Due.is("cut", x.cut(3), i);
        }
        Due.is("the call 511", x.type(3, 255), 1);
        Due.is("the call 512", x.byteAt(3, 0), 255);
    }

    // Promise 2: type

    /** "Puts a byte behind a source." */
    private static void typePutsAByteBehind() {
        Layerwell x = new Layerwell();
        x.type(1, 200);
        x.type(1, 13);
        x.type(2, 9);
        x.type(1, 200);
        Due.isSource("source 0", x, 0);
        Due.isSource("source 1", x, 1, 200, 13, 200);
        Due.isSource("source 2", x, 2, 9);
        Due.isSource("source 3", x, 3);
    }

    /** "Returns how many it has then." */
    private static void typeAnswersHowManyItHasThen() {
        Layerwell x = new Layerwell();
        for (int i = 1; i <= 120; i++) {
            Due.is("type", x.type(2, i), i);
        }
        Due.is("type elsewhere", x.type(1, 0), 1);
    }

    /** "source: 0 to 3" */
    private static void typeTakesTheFirstAndTheLastSource() {
        Layerwell x = new Layerwell();
        Due.is("type", x.type(0, 5), 1);
        Due.is("type", x.type(3, 6), 1);
        Due.isSource("source 0", x, 0, 5);
        Due.isSource("source 1", x, 1);
        Due.isSource("source 2", x, 2);
        Due.isSource("source 3", x, 3, 6);
    }

    /** "number: 0 to 255" */
    private static void typeTakesEachByte() {
        for (int from = 0; from < 256; from += 64) {
            Layerwell x = new Layerwell();
            for (int i = 0; i < 64; i++) {
                Due.is("type", x.type(0, from + i), i + 1);
            }
            for (int i = 0; i < 64; i++) {
                Due.is("byteAt", x.byteAt(0, i), from + i);
            }
        }
    }

    /** "Throws IndexOutOfBoundsException if there is no such source" */
    private static void typeRefusesNoSource() {
        Due.isRefusedOutside0To3("type", (x, source) -> x.type(source, 0));
    }

    /** "Throws IllegalArgumentException if it is no byte" */
    private static void typeRefusesNoByte() {
        for (int number : NO_BYTE) {
            Due.isRefused(Due.NO_ARGUMENT, Due::rich, "type " + number, x -> x.type(0, number));
            Due.isRefused(Due.NO_ARGUMENT, Due::rich, "type " + number, x -> x.type(3, number));
        }
    }

    /** "Throws IllegalStateException if it has 120" */
    private static void typeRefusesTheByte121() {
        Layerwell x = Due.withMany(9, 119);
        Due.is("type the last", x.type(0, 8), 120);
        Due.is("the last", x.byteAt(0, 119), 8);
        Due.isRefused(Due.FULL, () -> Due.withMany(9, 120), "type", y -> y.type(0, 8));
        Due.isRefused(Due.FULL, Due::rich, "type", y -> y.type(2, 0));
    }

    /** The byte 121 is refused of that source alone, and no more when a byte was taken away. */
    private static void typeGoesOnWhereThereIsRoom() {
        Layerwell x = Due.withMany(9, 120);
        Due.is("type elsewhere", x.type(1, 8), 1);
        x.cut(0);
        Due.is("type behind a cut", x.type(0, 8), 120);
        x.clear(0);
        Due.is("type behind clear", x.type(0, 8), 1);
    }

    /** "If several exceptions apply, the one that is documented first is thrown." */
    private static void typeThrowsInOrder() {
        Due.isRefusedOutside0To3("type no byte", (x, source) -> x.type(source, 256));
        Due.isRefusedOutside0To3("type no byte", (x, source) -> x.type(source, -1));
        Due.isRefused(Due.NO_ARGUMENT, Due::rich, "type no byte to a full one", x -> x.type(2, 256));
        Due.isRefused(Due.NO_ARGUMENT, Due::rich, "type no byte to a full one", x -> x.type(2, -1));
    }

    // Promise 3: typeMany

    /** "Puts the same byte behind a source some times." */
    private static void typeManyPutsTheSameByteBehind() {
        Layerwell x = new Layerwell();
        x.typeMany(1, 5, 3);
        x.typeMany(1, 255, 2);
        x.typeMany(1, 0, 1);
        Due.isSource("source 0", x, 0);
        Due.isSource("source 1", x, 1, 5, 5, 5, 255, 255, 0);
        Due.isSource("source 2", x, 2);
    }

    /** "Returns how many it has then." */
    private static void typeManyAnswersHowManyItHasThen() {
        Layerwell x = new Layerwell();
        Due.is("typeMany", x.typeMany(0, 5, 3), 3);
        Due.is("typeMany", x.typeMany(0, 6, 4), 7);
        Due.is("typeMany elsewhere", x.typeMany(3, 6, 4), 4);
    }

    /** "source: 0 to 3" */
    private static void typeManyTakesTheFirstAndTheLastSource() {
        Layerwell x = new Layerwell();
        Due.is("typeMany", x.typeMany(0, 5, 1), 1);
        Due.is("typeMany", x.typeMany(3, 6, 2), 2);
        Due.isSource("source 0", x, 0, 5);
        Due.isSource("source 3", x, 3, 6, 6);
    }

    /** "number: 0 to 255" */
    private static void typeManyTakesTheSmallestAndTheLargestByte() {
        Layerwell x = new Layerwell();
        Due.is("typeMany", x.typeMany(0, 0, 2), 2);
        Due.is("typeMany", x.typeMany(0, 255, 2), 4);
        Due.isSource("source 0", x, 0, 0, 0, 255, 255);
    }

    /** "many: 0 to 60": none */
    private static void typeManyNone() {
        Layerwell x = new Layerwell();
        Due.is("none to an empty one", x.typeMany(0, 5, 0), 0);
        Due.isSource("an empty one", x, 0);
        x.type(0, 1);
        Due.is("none", x.typeMany(0, 5, 0), 1);
        Due.isSource("one byte", x, 0, 1);
        Due.is("none to a full one", Due.withMany(9, 120).typeMany(0, 5, 0), 120);
    }

    /** "many: 0 to 60": sixty */
    private static void typeManySixty() {
        Layerwell x = new Layerwell();
        Due.is("sixty", x.typeMany(0, 7, 60), 60);
        Due.isSource("sixty", x, 0, Want.many(7, 60));
        Due.is("sixty more", x.typeMany(0, 8, 60), 120);
        Due.isSource("sixty more", x, 0, Want.joined(Want.many(7, 60), Want.many(8, 60)));
    }

    /** "Throws IndexOutOfBoundsException if there is no such source" */
    private static void typeManyRefusesNoSource() {
        Due.isRefusedOutside0To3("typeMany", (x, source) -> x.typeMany(source, 0, 1));
        Due.isRefusedOutside0To3("typeMany none", (x, source) -> x.typeMany(source, 0, 0));
    }

    /** "Throws IllegalArgumentException if it is no byte" */
    private static void typeManyRefusesNoByte() {
        for (int number : NO_BYTE) {
            Due.isRefused(Due.NO_ARGUMENT, Due::rich, "once " + number, x -> x.typeMany(0, number, 1));
            Due.isRefused(Due.NO_ARGUMENT, Due::rich, "no times " + number, x -> x.typeMany(0, number, 0));
            Due.isRefused(Due.NO_ARGUMENT, Due::rich, "sixty times " + number, x -> x.typeMany(3, number, 60));
        }
    }

    /** "or many is out of range" */
    private static void typeManyRefusesManyOutOfRange() {
        for (int many : new int[] {-1, 61, 120, 256, Integer.MIN_VALUE, Integer.MAX_VALUE}) {
            Due.isRefused(Due.NO_ARGUMENT, Due::rich, many + " times", x -> x.typeMany(3, 1, many));
            Due.isRefused(Due.NO_ARGUMENT, Due::rich, many + " times", x -> x.typeMany(0, 1, many));
        }
    }

    /** "Throws IllegalStateException if it would have more than 120" */
    private static void typeManyRefusesMoreThan120() {
        for (int many = 1; many <= 60; many++) {
            int more = many;
            int room = 120 - many;
            Due.is("just full", Due.withMany(1, room).typeMany(0, 1, many), 120);
            Due.isRefused(Due.FULL, () -> Due.withMany(1, room + 1), "one too many of " + many,
                    x -> x.typeMany(0, 1, more));
        }
        Due.isRefused(Due.FULL, Due::rich, "one to a full one", x -> x.typeMany(2, 1, 1));
        Due.isRefused(Due.FULL, Due::rich, "sixty to a full one", x -> x.typeMany(2, 1, 60));
    }

    /** "If several exceptions apply, the one that is documented first is thrown." */
    private static void typeManyThrowsInOrder() {
        Due.isRefusedOutside0To3("typeMany no byte", (x, source) -> x.typeMany(source, 256, 1));
        Due.isRefusedOutside0To3("typeMany 61 times", (x, source) -> x.typeMany(source, 1, 61));
        Due.isRefusedOutside0To3("typeMany both", (x, source) -> x.typeMany(source, -1, -1));
        Due.isRefused(Due.NO_ARGUMENT, Due::rich, "no byte to a full one", x -> x.typeMany(2, 256, 1));
        Due.isRefused(Due.NO_ARGUMENT, Due::rich, "61 times to a full one", x -> x.typeMany(2, 1, 61));
        Due.isRefused(Due.NO_ARGUMENT, Due::rich, "far too many", x -> x.typeMany(2, 1, Integer.MAX_VALUE));
        Due.isRefused(Due.NO_ARGUMENT, () -> Due.withMany(1, 60), "61 times to sixty", x -> x.typeMany(0, 1, 61));
    }

    // Promise 4: cut

    /** "Takes the last byte of a source away. Returns the byte." */
    private static void cutTakesTheLastByteAway() {
        Layerwell x = Due.with(1, 0, 255);
        x.type(1, 9);
        Due.is("cut", x.cut(0), 255);
        Due.isSource("behind one", x, 0, 1, 0);
        Due.is("cut", x.cut(0), 0);
        Due.isSource("behind two", x, 0, 1);
        Due.isSource("another one", x, 1, 9);
        x.type(0, 4);
        Due.isSource("and typed", x, 0, 1, 4);
    }

    /** "source: 0 to 3" */
    private static void cutTakesTheFirstAndTheLastSource() {
        Layerwell x = Due.with(1, 2);
        Due.fill(x, 3, 3, 4);
        Due.is("cut", x.cut(3), 4);
        Due.is("cut", x.cut(0), 2);
        Due.isSource("source 0", x, 0, 1);
        Due.isSource("source 3", x, 3, 3);
    }

    /** A source with 120 bytes, cut down to none */
    private static void cutAFullOneDownToNone() {
        Layerwell x = new Layerwell();
        for (int i = 0; i < 120; i++) {
            x.type(0, i);
        }
        for (int i = 119; i >= 0; i--) {
            Due.is("cut", x.cut(0), i);
            Due.is("length", x.length(0), i);
        }
    }

    /** "Throws IndexOutOfBoundsException if there is no such source" */
    private static void cutRefusesNoSource() {
        Due.isRefusedOutside0To3("cut", (x, source) -> x.cut(source));
    }

    /** "Throws NoSuchElementException if it has none" */
    private static void cutRefusesAnEmptyOne() {
        for (int i = 0; i < 4; i++) {
            int source = i;
            Due.isRefused(NO_BYTES, Layerwell::new, "cut at first", x -> x.cut(source));
        }
        Due.isRefused(NO_BYTES, Due::rich, "cut", x -> x.cut(3));
        Due.isRefused(NO_BYTES, SourcesTest::cutDown, "cut behind the last cut", x -> x.cut(0));
    }

    private static Layerwell cutDown() {
        Layerwell x = Due.with(10);
        x.cut(0);
        return x;
    }

    // Promise 5: clear

    /** "Takes all bytes of a source away." */
    private static void clearTakesAllBytesAway() {
        Layerwell x = Due.with(1, 2, 3);
        x.type(1, 9);
        x.clear(0);
        Due.isSource("the source", x, 0);
        Due.isSource("another one", x, 1, 9);
        x.type(0, 5);
        Due.isSource("and typed", x, 0, 5);
    }

    /** "Returns how many it had.": none, some, 120 */
    private static void clearAnswersHowManyItHad() {
        Due.is("clear an empty one", new Layerwell().clear(0), 0);
        Layerwell x = Due.with(1, 2, 3);
        Due.is("clear three", x.clear(0), 3);
        Due.is("clear again", x.clear(0), 0);
        Due.is("clear a full one", Due.withMany(1, 120).clear(0), 120);
    }

    /** "source: 0 to 3" */
    private static void clearTakesTheFirstAndTheLastSource() {
        Layerwell x = Due.with(1, 2);
        Due.fill(x, 3, 3);
        Due.is("clear", x.clear(3), 1);
        Due.is("clear", x.clear(0), 2);
        Due.is("length", x.length(3), 0);
    }

    /** "Throws IndexOutOfBoundsException if there is no such source" */
    private static void clearRefusesNoSource() {
        Due.isRefusedOutside0To3("clear", (x, source) -> x.clear(source));
    }

    // Promise 6: length

    /** "Returns how many bytes a source has.": none, some, 120 */
    private static void lengthAnswersHowManyBytes() {
        Layerwell x = Due.with(13, 10, 10);
        Due.is("length", x.length(0), 3);
        Due.is("length of an empty one", x.length(1), 0);
        Due.is("length of 119", Due.withMany(13, 119).length(0), 119);
        Due.is("length of a full one", Due.withMany(13, 120).length(0), 120);
    }

    /** "source: 0 to 3" */
    private static void lengthTakesTheFirstAndTheLastSource() {
        Layerwell x = Due.with(1, 2);
        x.type(3, 3);
        Due.is("length", x.length(0), 2);
        Due.is("length", x.length(3), 1);
    }

    /** "Throws IndexOutOfBoundsException if there is no such source" */
    private static void lengthRefusesNoSource() {
        Due.isRefusedOutside0To3("length", (x, source) -> x.length(source));
    }

    // Promise 7: byteAt

    /** "Returns a byte of a source.", "index: from 0" */
    private static void byteAtAnswersTheByte() {
        Layerwell x = Due.with(200, 0, 255);
        Due.fill(x, 3, 7);
        Due.is("byteAt 0", x.byteAt(0, 0), 200);
        Due.is("byteAt 1", x.byteAt(0, 1), 0);
        Due.is("byteAt 2", x.byteAt(0, 2), 255);
        Due.is("byteAt of the last source", x.byteAt(3, 0), 7);
    }

    /** The last place of a source with 120 bytes */
    private static void byteAtThePlace119() {
        Layerwell x = Due.withMany(1, 119);
        x.type(0, 2);
        Due.is("byteAt 118", x.byteAt(0, 118), 1);
        Due.is("byteAt 119", x.byteAt(0, 119), 2);
        Due.isRefused(Due.NO_PLACE, () -> Due.withMany(1, 120), "byteAt 120", y -> y.byteAt(0, 120));
    }

    /** "Throws IndexOutOfBoundsException if there is no such source" */
    private static void byteAtRefusesNoSource() {
        Due.isRefusedOutside0To3("byteAt", (x, source) -> x.byteAt(source, 0));
        Due.isRefusedOutside0To3("byteAt no place", (x, source) -> x.byteAt(source, -1));
    }

    /** "or place" */
    private static void byteAtRefusesNoPlace() {
        for (int index : new int[] {-1, 8, 9, 119, 120, 240, Integer.MIN_VALUE, Integer.MAX_VALUE}) {
            Due.isRefused(Due.NO_PLACE, Due::rich, "byteAt " + index, x -> x.byteAt(0, index));
        }
        Due.isRefused(Due.NO_PLACE, Due::rich, "byteAt of an empty one", x -> x.byteAt(3, 0));
        Due.isRefused(Due.NO_PLACE, Due::rich, "byteAt ahead of a full one", x -> x.byteAt(2, -1));
        Due.isRefused(Due.NO_PLACE, SourcesTest::cutDown, "byteAt of what was cut", x -> x.byteAt(0, 0));
    }

    // Promise 8: ends

    /** "Returns how many ends of line a source has: how many bytes 10 it has if it is LINED." */
    private static void endsOfEachShortRow() {
        for (int[] row : Want.rowsUpTo(5)) {
            Due.is("ends", Due.with(row).ends(0), Want.ends(row));
        }
    }

    /** A source that is empty */
    private static void endsOfNone() {
        Due.is("ends", new Layerwell().ends(0), 0);
        Due.is("ends of a source beside it", Due.with(10, 13).ends(1), 0);
    }

    /** A source with 120 bytes */
    private static void endsOfFullSources() {
        Due.is("of 10", Due.withMany(10, 120).ends(0), 120);
        Due.is("of 13", Due.withMany(13, 120).ends(0), 120);
        Due.is("of 97", Due.withMany(97, 120).ends(0), 0);
        Due.is("of 13 10", alternating(13, 10).ends(0), 60);
        Due.is("of 10 13", alternating(10, 13).ends(0), 61);
    }

    private static Layerwell alternating(int number, int other) {
        Layerwell x = new Layerwell();
        for (int i = 0; i < 120; i++) {
            x.type(0, i % 2 == 0 ? number : other);
        }
        return x;
    }

    /** Each byte but 10 and 13 is no end of line. */
    private static void endsOfOtherBytes() {
        for (int number = 0; number < 256; number++) {
            Due.is("ends of " + number, Due.with(number).ends(0), number == 10 || number == 13 ? 1 : 0);
        }
    }

    /** "source: 0 to 3" */
    private static void endsTakesTheFirstAndTheLastSource() {
        Layerwell x = Due.with(10, 10);
        x.type(3, 13);
        Due.is("ends", x.ends(0), 2);
        Due.is("ends", x.ends(3), 1);
    }

    /** "Throws IndexOutOfBoundsException if there is no such source" */
    private static void endsRefusesNoSource() {
        Due.isRefusedOutside0To3("ends", (x, source) -> x.ends(source));
    }
}
