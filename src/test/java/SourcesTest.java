import java.util.NoSuchElementException;

/** Promises 1 to 8: a new object and its sources. */
public final class SourcesTest {
    private static final Class<IndexOutOfBoundsException> NO_PLACE = IndexOutOfBoundsException.class;
    private static final Class<IllegalArgumentException> NO_ARGUMENT = IllegalArgumentException.class;
    private static final Class<IllegalStateException> FULL = IllegalStateException.class;
    private static final int[] NO_SOURCES = {-1, 4, Integer.MIN_VALUE, Integer.MAX_VALUE};

    public static void main(String[] args) {
        aNewObject();
        type();
        typeMany();
        cut();
        clear();
        length();
        byteAt();
        ends();
        Due.end();
    }

    private static void aNewObject() {
        Layerwell x = new Layerwell();
        for (int i = 0; i < 4; i++) {
            Due.is("new: length", x.length(i), 0);
            Due.is("new: ends", x.ends(i), 0);
            Due.is("new: checkOf", x.checkOf(i), 0);
            Due.is("new: kind", x.kind(i), -1);
        }
        Due.is("new: partLength", x.partLength(), 0);
        Layerwell other = new Layerwell();
        x.type(0, 1);
        Due.is("objects share nothing", other.length(0), 0);
    }

    private static void type() {
        Layerwell x = new Layerwell();
        Due.is("type first", x.type(0, 0), 1);
        Due.is("type second", x.type(0, 255), 2);
        Due.is("type elsewhere", x.type(3, 7), 1);
        Due.isSource("type", x, 0, 0, 255);
        Due.isSource("type", x, 1);
        Due.isSource("type", x, 3, 7);
        for (int source : NO_SOURCES) {
            Due.isThrown(NO_PLACE, x, "type no source", () -> x.type(source, 0));
            Due.isThrown(NO_PLACE, x, "type no source, no byte", () -> x.type(source, 256));
        }
        for (int number : new int[] {-1, 256, Integer.MIN_VALUE, Integer.MAX_VALUE}) {
            Due.isThrown(NO_ARGUMENT, x, "type no byte", () -> x.type(0, number));
        }
        Due.fillMany(x, 2, 9, 119);
        Due.is("type the last", x.type(2, 8), 120);
        Due.isThrown(FULL, x, "type too many", () -> x.type(2, 8));
        Due.isThrown(NO_ARGUMENT, x, "type too many, no byte", () -> x.type(2, -1));
        Due.is("the last stays", x.byteAt(2, 119), 8);
    }

    private static void typeMany() {
        Layerwell x = new Layerwell();
        Due.is("typeMany none", x.typeMany(0, 5, 0), 0);
        Due.is("typeMany three", x.typeMany(0, 5, 3), 3);
        Due.is("typeMany behind", x.typeMany(0, 255, 2), 5);
        Due.isSource("typeMany", x, 0, 5, 5, 5, 255, 255);
        Due.is("typeMany most", x.typeMany(1, 0, 60), 60);
        Due.is("typeMany full", x.typeMany(1, 0, 60), 120);
        Due.is("typeMany none to a full one", x.typeMany(1, 0, 0), 120);
        Due.isThrown(FULL, x, "typeMany beyond", () -> x.typeMany(1, 0, 1));
        Due.isThrown(FULL, x, "typeMany far beyond", () -> x.typeMany(1, 0, 60));
        Due.fillMany(x, 2, 1, 70);
        Due.isThrown(FULL, x, "typeMany just beyond", () -> x.typeMany(2, 1, 51));
        Due.is("typeMany just full", x.typeMany(2, 1, 50), 120);
        for (int source : NO_SOURCES) {
            Due.isThrown(NO_PLACE, x, "typeMany no source", () -> x.typeMany(source, 256, 61));
        }
        for (int number : new int[] {-1, 256}) {
            Due.isThrown(NO_ARGUMENT, x, "typeMany no byte", () -> x.typeMany(0, number, 1));
            Due.isThrown(NO_ARGUMENT, x, "typeMany no byte, too many", () -> x.typeMany(1, number, 1));
            Due.isThrown(NO_ARGUMENT, x, "typeMany no byte, not once", () -> x.typeMany(0, number, 0));
        }
        for (int many : new int[] {-1, 61, Integer.MIN_VALUE, Integer.MAX_VALUE}) {
            Due.isThrown(NO_ARGUMENT, x, "typeMany out of range", () -> x.typeMany(0, 1, many));
            Due.isThrown(NO_ARGUMENT, x, "typeMany out of range, full", () -> x.typeMany(1, 1, many));
        }
    }

    private static void cut() {
        Layerwell x = Due.with(1, 0, 255);
        Due.is("cut last", x.cut(0), 255);
        Due.is("cut next", x.cut(0), 0);
        Due.isSource("cut", x, 0, 1);
        Due.is("type behind a cut", x.type(0, 4), 2);
        Due.isSource("cut and type", x, 0, 1, 4);
        x.cut(0);
        x.cut(0);
        Due.isThrown(NoSuchElementException.class, x, "cut none", () -> x.cut(0));
        Due.isThrown(NoSuchElementException.class, x, "cut of an empty one", () -> x.cut(3));
        for (int source : NO_SOURCES) {
            Due.isThrown(NO_PLACE, x, "cut no source", () -> x.cut(source));
        }
    }

    private static void clear() {
        Layerwell x = Due.with(1, 2, 3);
        x.type(1, 9);
        Due.is("clear", x.clear(0), 3);
        Due.is("clear again", x.clear(0), 0);
        Due.isSource("clear", x, 0);
        Due.isSource("clear leaves others", x, 1, 9);
        Due.fillMany(x, 0, 1, 120);
        Due.is("clear a full one", x.clear(0), 120);
        Due.is("type behind clear", x.type(0, 5), 1);
        for (int source : NO_SOURCES) {
            Due.isThrown(NO_PLACE, x, "clear no source", () -> x.clear(source));
        }
    }

    private static void length() {
        Layerwell x = Due.with(1, 2, 3);
        Due.is("length", x.length(0), 3);
        Due.is("length of an empty one", x.length(3), 0);
        Due.fillMany(x, 3, 13, 120);
        Due.is("length of a full one", x.length(3), 120);
        for (int source : NO_SOURCES) {
            Due.isThrown(NO_PLACE, x, "length no source", () -> x.length(source));
        }
    }

    private static void byteAt() {
        Layerwell x = Due.with(200, 0, 255);
        Due.is("byteAt 0", x.byteAt(0, 0), 200);
        Due.is("byteAt 1", x.byteAt(0, 1), 0);
        Due.is("byteAt 2", x.byteAt(0, 2), 255);
        x.cut(0);
        for (int index : new int[] {-1, 2, 120, 240, Integer.MIN_VALUE, Integer.MAX_VALUE}) {
            Due.isThrown(NO_PLACE, x, "byteAt no place", () -> x.byteAt(0, index));
        }
        Due.isThrown(NO_PLACE, x, "byteAt of an empty one", () -> x.byteAt(1, 0));
        for (int source : NO_SOURCES) {
            Due.isThrown(NO_PLACE, x, "byteAt no source", () -> x.byteAt(source, 0));
        }
    }

    private static void ends() {
        Due.is("ends of none", Due.with().ends(0), 0);
        Due.is("ends of 10", Due.with(10).ends(0), 1);
        Due.is("ends of 13", Due.with(13).ends(0), 1);
        Due.is("ends of 13 10", Due.with(13, 10).ends(0), 1);
        Due.is("ends of 10 13", Due.with(10, 13).ends(0), 2);
        Due.is("ends of 13 13 10 10", Due.with(13, 13, 10, 10).ends(0), 3);
        Due.is("ends of 13 1 10", Due.with(13, 1, 10).ends(0), 2);
        Due.is("ends of other bytes", Due.with(11, 12, 14, 0, 255).ends(0), 0);
        Layerwell x = Due.with(13, 10);
        Due.is("ends of another source", x.ends(1), 0);
        for (int source : NO_SOURCES) {
            Due.isThrown(NO_PLACE, x, "ends no source", () -> x.ends(source));
        }
    }
}
