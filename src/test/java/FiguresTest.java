/** Promises 28 to 31: figures over all, and the theorem. */
public final class FiguresTest {
    private static final int[] NO_SOURCES = {-1, 4, Integer.MIN_VALUE, Integer.MAX_VALUE};

    public static void main(String[] args) {
        share();
        meanLine();
        checksumAtFirst();
        checksumOfAll();
        isTrue();
        isTrueOfMany();
        Due.end();
    }

    private static void share() {
        Layerwell x = Due.with(13, 10, 1);
        Due.is("share of a third", x.share(0), 1f / 3f);
        Due.fill(x, 1, 1, 2);
        Due.is("share of none", x.share(1), 0f);
        Due.fillMany(x, 2, 13, 120);
        Due.is("share of all", x.share(2), 1f);
        Due.isThrown(ArithmeticException.class, x, "share of an empty one", () -> x.share(3));
        for (int source : NO_SOURCES) {
            Due.isThrown(IndexOutOfBoundsException.class, x, "share no source", () -> x.share(source));
        }
    }

    private static void meanLine() {
        Layerwell x = Due.with(10, 10, 10);
        Due.isThrown(ArithmeticException.class, x, "meanLine, none open", x::meanLine);
        for (int kind : new int[] {0, 1, 3, 4, 7}) {
            x.open(0, kind, 0, 0);
            x.read(0);
            Due.isThrown(ArithmeticException.class, x, "meanLine, kind " + kind, x::meanLine);
        }
        x.open(1, 2, 0, 0);
        Due.is("meanLine of 0", x.meanLine(), 0.0);
        x.skip(1, 3);
        x.open(2, 5, 0, 0);
        Due.is("meanLine of 3 and 0", x.meanLine(), 1.5);
        x.open(3, 6, 0, 0);
        x.read(3);
        Due.is("meanLine of 3, 0 and 1", x.meanLine(), 4.0 / 3.0);
        x.setLine(1, Integer.MAX_VALUE);
        x.setLine(2, Integer.MAX_VALUE);
        x.setLine(3, Integer.MAX_VALUE);
        Due.is("meanLine of a sum beyond an int", x.meanLine(), 2147483647.0);
        x.setLine(2, -5);
        x.open(1, 0, 0, 0);
        x.open(3, 0, 0, 0);
        Due.is("meanLine of -5", x.meanLine(), -5.0);
    }

    private static void checksumAtFirst() {
        long sum = 7;
        for (int i = 0; i < 5; i++) {
            sum = 31 * sum;
        }
        for (int i = 0; i < 4; i++) {
            sum = 31 * sum - 1;
        }
        Due.is("checksum at first", new Layerwell().checksum(), sum);
    }

    private static void checksumOfAll() {
        Layerwell x = Due.with(200, 13, 10);
        Due.fill(x, 3, 255, 10);
        x.open(0, 6, 0, 0);
        x.setLine(0, -9);
        x.read(0);
        x.open(1, 2, 0, 0);
        x.skip(1, 2);
        x.open(3, 3, 3, 0);
        x.readPart(3, 2);
        long[] terms = {3, 200, 13, 10, 0, 0, 2, 255, 10, 2, 255, 10, 6, -9, x.check(0), 2, 1, -1, 3, x.checkOf(3)};
        long sum = 7;
        for (long term : terms) {
            sum = 31 * sum + term;
        }
        Due.is("checksum of all", x.checksum(), sum);
        x.mark(1);
        Due.is("a mark is not in it", x.checksum(), sum);
    }

    private static void isTrue() {
        Layerwell x = new Layerwell();
        Due.is("isTrue of nothing", x.isTrue(), true);
        Due.fill(x, 0, 10, 13, 10, 5);
        Due.fill(x, 3, 1, 2, 3, 13, 10);
        for (int kind = 0; kind < 8; kind++) {
            x.open(0, kind, 0, 3);
            x.skip(0, 1);
            x.open(1, 2, 3, 0);
            x.skip(1, 1);
            x.readPart(1, 2);
            x.mark(1);
            x.skip(1, 1);
            long before = x.checksum();
            Due.is("isTrue", x.isTrue(), true);
            Due.is("checksum behind isTrue", x.checksum(), before);
            Due.isPart("the part behind isTrue", x, 2, 3);
            x.back(1);
            Due.isRest("the mark behind isTrue", x, 1, 10);
            Due.is("the place behind isTrue", x.read(0), kind == 5 || kind == 2 || kind >= 6 ? 10 : 13);
        }
    }

    private static void isTrueOfMany() {
        int[] signs = {10, 13, 0, 255};
        for (int i = 0; i < 2000; i++) {
            Layerwell x = new Layerwell();
            int rest = i;
            for (int at = 0; at < 8; at++) {
                x.type(at / 2 % 4, signs[rest % 4]);
                rest = rest / 4 + at;
            }
            x.type(i % 4, signs[i % 3]);
            Due.is("isTrue of run " + i, x.isTrue(), true);
        }
        Layerwell x = new Layerwell();
        for (int source = 0; source < 4; source++) {
            Due.fillMany(x, source, source < 2 ? 13 : 10, 120);
        }
        for (int first = 0; first < 4; first++) {
            Due.is("isTrue of full sources", x.isTrue(), true);
            x.cut(first);
        }
    }
}
