import java.math.BigInteger;

/** Promises 28 to 31: figures over all, and the theorem. Above each test stands the sentence that it is for. */
public final class FiguresTest {
    public static void main(String[] args) {
        Due.runAll(FiguresTest.class);
    }

    // Promise 28: share

    /** "Returns how many ends of line a source has divided by how many bytes it has, both converted to float." */
    private static void shareOfEachShortRow() {
        for (int[] row : Want.rowsUpTo(5)) {
            if (row.length > 0) {
                Due.is("share", Due.with(row).share(0), (float) Want.ends(row) / (float) row.length);
            }
        }
    }

    /** Each share that a source can have: it is a float, and no double. */
    private static void shareIsAFloat() {
        for (int many = 1; many <= 120; many++) {
            int others = many * 7 % (121 - many);
            Layerwell x = Due.withMany(10, many);
            for (int i = 0; i < others; i++) {
                x.type(0, 97);
            }
            Due.is("share", x.share(0), (float) many / (float) (many + others));
        }
    }

    /** None, one of 120, and all of 120 */
    private static void shareOfFullSources() {
        Due.is("of none", Due.withMany(97, 120).share(0), 0f);
        Due.is("of all", Due.withMany(13, 120).share(0), 1f);
        Layerwell x = Due.withMany(97, 119);
        x.type(0, 13);
        Due.is("of one", x.share(0), 1f / 120f);
    }

    /** "source: 0 to 3" */
    private static void shareTakesTheFirstAndTheLastSource() {
        Layerwell x = Due.with(10, 1, 2);
        Due.fill(x, 3, 13, 10);
        Due.is("share", x.share(0), 1f / 3f);
        Due.is("share", x.share(3), 0.5f);
    }

    /** "Throws IndexOutOfBoundsException if there is no such source" */
    private static void shareRefusesNoSource() {
        Due.isRefusedOutside0To3("share", (x, source) -> x.share(source));
    }

    /** "Throws ArithmeticException if it has no bytes" */
    private static void shareRefusesAnEmptySource() {
        for (int i = 0; i < 4; i++) {
            int source = i;
            Due.isRefused(Due.NO_NUMBER, Layerwell::new, "share", x -> x.share(source));
        }
        Due.isRefused(Due.NO_NUMBER, Due::rich, "share", x -> x.share(3));
    }

    // Promise 29: meanLine

    /** "the sum [...] of the line numbers of all open streams that have one, divided by how many these are" */
    private static void meanLineOfOneToFourStreams() {
        for (int kind : Want.WITH_LINES) {
            Layerwell x = Due.with(10, 10, 10, 10, 10);
            int[] passed = {5, 0, 2, 1};
            int sum = 0;
            for (int stream = 0; stream < 4; stream++) {
                x.open(stream, kind, 0, 3);
                x.skip(stream, passed[stream]);
                sum += passed[stream];
                Due.is("meanLine", x.meanLine(), (double) sum / (double) (stream + 1));
            }
        }
    }

    /** "of all open streams that have one": all others are left out */
    private static void meanLineLeavesOtherKindsOut() {
        Layerwell x = Due.with(10, 10, 10);
        x.open(3, 2, 0, 0);
        x.skip(3, 3);
        for (int kind : Want.WITHOUT_LINES) {
            for (int stream = 0; stream < 3; stream++) {
                x.open(stream, kind, 0, 0);
                x.skip(stream, 3);
                Due.is("meanLine", x.meanLine(), 3.0);
            }
        }
    }

    /** "the sum, a long": of four largest and of four smallest line numbers */
    private static void meanLineIsOfALong() {
        Layerwell x = new Layerwell();
        for (int number : new int[] {Integer.MAX_VALUE, Integer.MIN_VALUE}) {
            for (int stream = 0; stream < 4; stream++) {
                x.open(stream, 2, 0, 0);
                x.setLine(stream, number);
            }
            Due.is("meanLine", x.meanLine(), (double) number);
        }
        x.setLine(0, Integer.MAX_VALUE);
        x.setLine(1, Integer.MAX_VALUE);
        Due.is("meanLine of both", x.meanLine(), -0.5);
    }

    /** "both converted to double": a third is not rounded to an int, nor to a float */
    private static void meanLineIsADouble() {
        Layerwell x = new Layerwell();
        int[] numbers = {2147483646, -5, 16777217};
        for (int stream = 0; stream < 3; stream++) {
            x.open(stream, 6, 0, 0);
            x.setLine(stream, numbers[stream]);
        }
        Due.is("meanLine", x.meanLine(), 2164260858.0 / 3.0);
    }

    /** A mean of 0 is no matter of none, and one below 0 is one. */
    private static void meanLineOf0AndBelow() {
        Layerwell x = new Layerwell();
        x.open(1, 5, 0, 0);
        Due.is("meanLine of 0", x.meanLine(), 0.0);
        x.setLine(1, -5);
        Due.is("meanLine of -5", x.meanLine(), -5.0);
    }

    /** "Throws ArithmeticException if there are none": no open stream, or of other kinds alone, or no more */
    private static void meanLineRefusesNone() {
        Due.isRefused(Due.NO_NUMBER, Layerwell::new, "meanLine", Layerwell::meanLine);
        for (int kind : Want.WITHOUT_LINES) {
            Due.isRefused(Due.NO_NUMBER, () -> Due.opened(kind, 10), "kind " + kind, Layerwell::meanLine);
            Due.isRefused(Due.NO_NUMBER, () -> openedAgain(kind), "kind " + kind, Layerwell::meanLine);
        }
    }

    private static Layerwell openedAgain(int kind) {
        Layerwell x = Due.opened(2, 10);
        x.read(0);
        x.open(0, kind, 0, 0);
        return x;
    }

    // Promise 30: checksum

    private static long sumOf(long... terms) {
        BigInteger sum = BigInteger.valueOf(7);
        for (long term : terms) {
            sum = sum.multiply(BigInteger.valueOf(31)).add(BigInteger.valueOf(term));
        }
        return sum.longValue();
    }

    /** "Returns 7 at first, then 31 times itself plus each of" what a new object has */
    private static void checksumOfANewObject() {
        Due.is("checksum", new Layerwell().checksum(), sumOf(0, 0, 0, 0, 0, -1, -1, -1, -1));
    }

    /** "for each source how many bytes it has, and each byte" */
    private static void checksumOfSources() {
        Layerwell x = Due.with(200, 13, 10);
        Due.fill(x, 1, 255);
        Due.fill(x, 3, 0, 0);
        Due.is("checksum", x.checksum(), sumOf(3, 200, 13, 10, 1, 255, 0, 2, 0, 0, 0, -1, -1, -1, -1));
    }

    /** "how many bytes the part has, and each byte" */
    private static void checksumOfThePart() {
        Layerwell x = Due.with(255, 0);
        x.open(2, 1, 0, 0);
        x.readPart(2, 64);
        x.clear(0);
        Due.is("checksum", x.checksum(), sumOf(0, 0, 0, 0, 2, 255, 0, -1, -1, 1, -1));
    }

    /** "for each stream its kind, and, if it has one, its line number, and, if it has one, its check" */
    private static void checksumOfEachKind() {
        long check = Want.check(10);
        long[][] terms = {{0}, {1}, {2, -9}, {3, check}, {4}, {5, -9}, {6, -9, check}, {7}};
        for (int kind = 0; kind < 8; kind++) {
            for (int stream = 0; stream < 4; stream++) {
                Layerwell x = Due.with(10);
                x.open(stream, kind, 0, 3);
                x.read(stream);
                setLineIfItHasOne(x, stream);
                x.clear(0);
                Due.is("kind " + kind, x.checksum(), sumOf(withStream(stream, terms[kind])));
            }
        }
    }

    private static void setLineIfItHasOne(Layerwell x, int stream) {
        Due.thrownBy(x, y -> y.setLine(stream, -9));
    }

    private static long[] withStream(int stream, long[] terms) {
        long[] all = new long[8 + terms.length];
        for (int i = 0; i < 4; i++) {
            if (i < stream) {
                all[5 + i] = -1;
            } else if (i > stream) {
                all[4 + terms.length + i] = -1;
            }
        }
        System.arraycopy(terms, 0, all, 5 + stream, terms.length);
        return all;
    }

    /** "a long that goes round": of four sources with 120 bytes, a part of 64, and the largest figures */
    private static void checksumGoesRound() {
        Layerwell x = new Layerwell();
        long[] terms = new long[4 * 121 + 65 + 4 * 3];
        int at = 0;
        for (int source = 0; source < 4; source++) {
            Due.fillMany(x, source, 255 - source, 120);
            terms[at++] = 120;
            for (int i = 0; i < 120; i++) {
                terms[at++] = 255 - source;
            }
        }
        terms[at++] = 64;
        for (int i = 0; i < 64; i++) {
            terms[at++] = 255;
        }
        for (int stream = 0; stream < 4; stream++) {
            x.open(stream, 6, 0, 0);
            x.readPart(stream, 64);
            x.checkAnew(stream);
            x.skip(stream, 4);
            x.setLine(stream, Integer.MAX_VALUE);
            terms[at++] = 6;
            terms[at++] = Integer.MAX_VALUE;
            terms[at++] = 4294967295L;
        }
        Due.is("checksum", x.checksum(), sumOf(terms));
    }

    /** Marks and places alone are not in it, and asking changes nothing. */
    private static void checksumHasNoMarksOrPlaces() {
        Layerwell x = Due.opened(0, 1, 2, 3);
        long before = x.checksum();
        x.mark(0);
        x.skip(0, 2);
        Due.is("checksum", x.checksum(), before);
        Due.is("checksum again", x.checksum(), before);
        Due.isRest("the place", x, 0, 3);
    }

    // Promise 31: isTrue

    /** "new streams of all kinds [...] give their OUT, their line numbers and their checks" */
    private static void isTrueOfEachPairOfShortRows() {
        for (int[] a : Want.rowsUpTo(4)) {
            for (int[] b : Want.rowsUpTo(2)) {
                Layerwell x = new Layerwell();
                Due.fill(x, 3, a);
                Due.fill(x, 0, b);
                Due.is("isTrue", x.isTrue(), true);
            }
        }
    }

    /** Sources that are empty, and sources with 120 bytes */
    private static void isTrueOfEmptyAndFullSources() {
        Due.is("isTrue of nothing", new Layerwell().isTrue(), true);
        for (int number : new int[] {10, 13, 97, 255}) {
            for (int other : new int[] {10, 13, 97, 255}) {
                Layerwell x = new Layerwell();
                for (int source = 0; source < 4; source++) {
                    Due.fillMany(x, source, source % 2 == 0 ? number : other, 120);
                }
                for (int first = 0; first < 4; first++) {
                    Due.is("isTrue", x.isTrue(), true);
                    x.cut(first);
                }
                Due.is("isTrue of 119", x.isTrue(), true);
            }
        }
    }

    /** Sources with one byte to nine, so that a third and a part of three are rounded in each way */
    private static void isTrueOfEachLength() {
        for (int many = 1; many <= 9; many++) {
            for (int number : new int[] {10, 13, 97}) {
                Due.is("isTrue", Due.withMany(number, many).isTrue(), true);
            }
        }
    }

    /** "nothing of what there is changes by it." */
    private static void isTrueChangesNothing() {
        Layerwell x = Due.rich();
        Due.is("isTrue", x.isTrue(), true);
        Due.is("isTrue again", x.isTrue(), true);
        Due.is("all that can be seen", Look.at(x), Look.at(Due.rich()));
        for (int kind = 0; kind < 8; kind++) {
            Layerwell y = passedAndMarked(kind);
            y.isTrue();
            Due.is("kind " + kind, Look.at(y), Look.at(passedAndMarked(kind)));
        }
    }

    private static Layerwell passedAndMarked(int kind) {
        Layerwell x = Due.with(10, 13, 10, 5, 13);
        Due.fill(x, 3, 10, 2);
        for (int stream = 0; stream < 4; stream++) {
            int marked = stream;
            x.open(stream, kind, 0, 3);
            x.skip(stream, stream);
            Due.thrownBy(x, y -> y.mark(marked));
            x.readPart(stream, 1);
        }
        return x;
    }

    /** It holds whatever the streams are like, also where a line number has gone round. */
    private static void isTrueOfAnyStreams() {
        Layerwell x = Due.opened(2, 10, 13);
        x.setLine(0, Integer.MAX_VALUE);
        x.read(0);
        Due.is("isTrue", x.isTrue(), true);
        x.skip(0, 200);
        Due.is("isTrue with nothing left", x.isTrue(), true);
    }
}
