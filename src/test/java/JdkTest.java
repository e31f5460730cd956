import java.io.ByteArrayInputStream;
import java.io.ByteArrayOutputStream;
import java.io.IOException;
import java.io.InputStream;
import java.io.LineNumberInputStream;
import java.io.SequenceInputStream;
import java.io.StringBufferInputStream;
import java.util.NoSuchElementException;
import java.util.zip.CRC32C;
import java.util.zip.CheckedInputStream;

/**
 * Long runs of calls, made by a row of numbers that is always the same, on Layerwell and on the JDK's own streams
 * at once. Every answer must agree, of the calls that throw, too. No object is asked more than 512 calls, as what
 * later ones answer is free.
 */
@SuppressWarnings("deprecation")
public final class JdkTest {
    private static final int RUNS = 2000;
    private static final int CALLS = 512;
    // With two calls behind each, and 64 at the end that look at the part, these are no more than 512, too.
    private static final int COMPARED_CALLS = 140;
    // Answers that no call gives stand for the exceptions.
    private static final int PLACE = -1001;
    private static final int ARGUMENT = -1002;
    private static final int STATE = -1003;
    private static final int ABLE = -1004;
    private static final int NUMBER = -1005;
    private static final int ELEMENT = -1006;
    private static final int OTHER = -1007;
    private static final int[] LIKELY = {10, 13, 97, 98};
    private static final int[] EDGES = {Integer.MIN_VALUE, Integer.MAX_VALUE, -1, 256, 201, 65, 61};
    private static final String[] CALL_NAMES = {
        "type", "typeMany", "cut", "clear", "length", "byteAt", "ends", "open", "kind", "read", "readPart",
        "partLength", "partAt", "skip", "readLine", "pour", "alike", "canMark", "mark", "back", "left", "line",
        "setLine", "check", "checkAnew", "checkOf", "share", "meanLine", "checksum", "isTrue",
        // What fills sources and streams is asked more often.
        "type", "typeMany", "open", "open", "readPart", "skip", "mark", "back"};

    private static long seed = 20261118;

    private final Layerwell x = new Layerwell();
    private final Well well = new Well();

    public static void main(String[] args) throws IOException {
        for (int run = 0; run < RUNS; run++) {
            new JdkTest().run(run);
        }
        Due.end();
    }

    /** One half of the runs looks at all behind each call, the other half only asks, up to the last call there is. */
    private void run(int run) throws IOException {
        boolean compared = run % 2 == 0;
        for (int i = 0; i < (compared ? COMPARED_CALLS : CALLS); i++) {
            String where = "run " + run + ", call " + i + ": ";
            askBoth(where);
            if (compared) {
                Due.is(where + "checksum", x.checksum(), well.checksum());
                Due.is(where + "partLength", x.partLength(), well.part.length);
            }
        }
        if (compared) {
            for (int i = 0; i < well.part.length; i++) {
                Due.is("run " + run + ", at the end: partAt " + i, x.partAt(i), well.part[i] & 255);
            }
        }
    }

    private void askBoth(String where) throws IOException {
        String call = CALL_NAMES[upTo(CALL_NAMES.length)];
        int a = chosen(4);
        int b = chosen(4);
        int c = orEdge(upTo(6) == 0 ? upTo(260) - 2 : LIKELY[upTo(4)]);
        int many = orEdge(upTo(3) == 0 ? upTo(210) - 3 : upTo(5));
        int kind = chosen(8);
        String asked = where + call + " with " + a + " " + b + " " + c + " " + many + " " + kind;
        if (call.equals("checksum")) {
            Due.is(asked, x.checksum(), well.checksum());
        } else {
            Due.is(asked, ask(call, a, b, c, many, kind), well.ask(call, a, b, c, many, kind));
        }
    }

    /** Mostly a number that there is. */
    private static int chosen(int bound) {
        return upTo(40) > 0 ? upTo(bound) : upTo(3) == 0 ? EDGES[upTo(4)] : upTo(2) * (bound + 1) - 1;
    }

    private static int orEdge(int number) {
        return upTo(30) == 0 ? EDGES[upTo(EDGES.length)] : number;
    }

    /** Line numbers that soon go round are as likely as any others. */
    private static int lineOf(int c) {
        return c % 2 == 0 ? Integer.MAX_VALUE - (c & 3) : c * 16777216;
    }

    private static int upTo(int bound) {
        seed = seed * 6364136223846793005L + 1442695040888963407L;
        return (int) ((seed >>> 33) % bound);
    }

    private double ask(String call, int a, int b, int c, int many, int kind) {
        try {
            switch (call) {
                case "type": return x.type(a, c);
                case "typeMany": return x.typeMany(a, c, many);
                case "cut": return x.cut(a);
                case "clear": return x.clear(a);
                case "length": return x.length(a);
                case "byteAt": return x.byteAt(a, many);
                case "ends": return x.ends(a);
                case "open": return x.open(a, kind, b, Math.floorMod(c, 4));
                case "read": return x.read(a);
                case "readPart": return x.readPart(a, many);
                case "partLength": return x.partLength();
                case "partAt": return x.partAt(many);
                case "skip": return x.skip(a, many);
                case "readLine": return x.readLine(a, b);
                case "pour": return x.pour(a, b);
                case "alike": return x.alike(a, b);
                case "canMark": return x.canMark(a) ? 1 : 0;
                case "mark": return x.mark(a);
                case "back": return x.back(a);
                case "left": return x.left(a);
                case "line": return x.line(a);
                case "setLine": return x.setLine(a, lineOf(c));
                case "check": return x.check(a);
                case "checkAnew": return x.checkAnew(a);
                case "checkOf": return x.checkOf(a);
                case "kind": return x.kind(a);
                case "meanLine": return x.meanLine();
                case "isTrue": return x.isTrue() ? 1 : 0;
                default: return x.share(a);
            }
        } catch (RuntimeException e) {
            return numberOf(e.getClass());
        }
    }

    /** Just the class that the document names: one below it would be an exception that the machine has thrown. */
    private static int numberOf(Class<?> thrown) {
        if (thrown == IndexOutOfBoundsException.class) {
            return PLACE;
        } else if (thrown == IllegalArgumentException.class) {
            return ARGUMENT;
        } else if (thrown == IllegalStateException.class) {
            return STATE;
        } else if (thrown == UnsupportedOperationException.class) {
            return ABLE;
        } else if (thrown == ArithmeticException.class) {
            return NUMBER;
        } else if (thrown == NoSuchElementException.class) {
            return ELEMENT;
        }
        return OTHER;
    }

    /** One stream of the JDK, its layers known by name, and all that it will give, read of a twin ahead of it. */
    private static final class Layers {
        private final int kind;
        private final byte[] out;
        private final InputStream top;
        private LineNumberInputStream lines;
        private CheckedInputStream checked;
        private boolean marked;
        private int place;
        private int markPlace;

        Layers(int kind, byte[] a, byte[] b) throws IOException {
            this.kind = kind;
            this.out = layered(a, b).readAllBytes();
            this.top = layered(a, b);
        }

        private InputStream layered(byte[] a, byte[] b) {
            lines = null;
            checked = null;
            InputStream first = new ByteArrayInputStream(a);
            InputStream second = new ByteArrayInputStream(b);
            switch (kind) {
                case 0: return first;
                case 1: return new StringBufferInputStream(new String(a, java.nio.charset.StandardCharsets.ISO_8859_1));
                case 2: return lined(first);
                case 3: return checked(first);
                case 4: return new SequenceInputStream(first, second);
                case 5: return lined(new SequenceInputStream(first, second));
                case 6: return checked(lined(first));
                default: return new SequenceInputStream(
                        new LineNumberInputStream(first), new LineNumberInputStream(second));
            }
        }

        private InputStream lined(InputStream in) {
            lines = new LineNumberInputStream(in);
            return lines;
        }

        private InputStream checked(InputStream in) {
            checked = new CheckedInputStream(in, new CRC32C());
            return checked;
        }

        int next() throws IOException {
            int number = top.read();
            place += number < 0 ? 0 : 1;
            return number;
        }

        byte[] part(int many) throws IOException {
            byte[] room = new byte[many];
            int got = top.read(room);
            place += Math.max(got, 0);
            return got < 0 ? null : java.util.Arrays.copyOf(room, got);
        }

        int skip(int many) throws IOException {
            int passed = (int) top.skip(many);
            place += passed;
            return passed;
        }

        void back() throws IOException {
            top.reset();
            place = marked ? markPlace : 0;
            if (kind == 1) {
                place = 0;
            }
        }

        void mark() {
            top.mark(1000);
            marked = true;
            markPlace = place;
        }

        int lineOr(int none) {
            return lines == null ? none : lines.getLineNumber();
        }
    }

    /** What Layerwell is to be, over the JDK's streams; a number below -1000 stands for an exception. */
    private static final class Well {
        private final byte[][] sources = new byte[4][0];
        private final Layers[] streams = new Layers[4];
        private byte[] part = new byte[0];

        double ask(String call, int a, int b, int c, int many, int kind) throws IOException {
            switch (call) {
                case "partLength": return part.length;
                case "partAt": return byteOf(part, many);
                case "meanLine": return meanLine();
                case "isTrue": return 1;
                default: break;
            }
            if (a < 0 || a > 3) {
                return PLACE;
            }
            switch (call) {
                case "type": return typeMany(a, c, 1);
                case "typeMany": return typeMany(a, c, many);
                case "cut": return cut(a);
                case "clear": return become(a, new byte[0]);
                case "length": return sources[a].length;
                case "byteAt": return byteOf(sources[a], many);
                case "ends": return ends(a);
                case "share": return sources[a].length == 0 ? NUMBER : (float) ends(a) / (float) sources[a].length;
                case "checkOf": return checkOf(sources[a]);
                case "open": return open(a, kind, b, Math.floorMod(c, 4));
                case "kind": return streams[a] == null ? -1 : streams[a].kind;
                case "readPart": return many < 1 || many > 64 ? ARGUMENT : askOpen(call, a, b, c, many);
                case "skip": return many < 0 || many > 200 ? ARGUMENT : askOpen(call, a, b, c, many);
                case "readLine":
                case "pour": return b < 0 || b > 3 ? PLACE : askOpen(call, a, b, c, many);
                case "alike": return b < 0 || b > 3 ? PLACE : a == b ? ARGUMENT : askOpen(call, a, b, c, many);
                default: return askOpen(call, a, b, c, many);
            }
        }

        private double askOpen(String call, int a, int b, int c, int many) throws IOException {
            Layers layers = streams[a];
            if (layers == null) {
                return ABLE;
            }
            switch (call) {
                case "read": return layers.next();
                case "readPart": return readPart(layers, many);
                case "skip": return layers.skip(many);
                case "readLine": return readLine(layers, b);
                case "pour": return pour(layers, b);
                case "alike": return streams[b] == null ? ABLE : alike(layers, streams[b]);
                case "canMark": return layers.top.markSupported() ? 1 : 0;
                case "mark": return mark(layers);
                case "back": return back(layers);
                case "left": return "013".indexOf('0' + layers.kind) < 0 ? ABLE : layers.top.available();
                case "line": return layers.lineOr(ABLE);
                case "setLine": return setLine(layers, lineOf(c));
                case "check": return layers.checked == null ? ABLE : layers.checked.getChecksum().getValue();
                default: return checkAnew(layers);
            }
        }

        private int typeMany(int source, int number, int many) {
            if (number < 0 || number > 255 || many < 0 || many > 60) {
                return ARGUMENT;
            }
            byte[] old = sources[source];
            if (old.length + many > 120) {
                return STATE;
            }
            sources[source] = java.util.Arrays.copyOf(old, old.length + many);
            java.util.Arrays.fill(sources[source], old.length, old.length + many, (byte) number);
            return old.length + many;
        }

        private int cut(int source) {
            byte[] old = sources[source];
            if (old.length == 0) {
                return ELEMENT;
            }
            sources[source] = java.util.Arrays.copyOf(old, old.length - 1);
            return old[old.length - 1] & 255;
        }

        private static int byteOf(byte[] bytes, int index) {
            return index < 0 || index >= bytes.length ? PLACE : bytes[index] & 255;
        }

        private int become(int source, byte[] bytes) {
            int had = sources[source].length;
            sources[source] = bytes;
            return had;
        }

        private int ends(int source) throws IOException {
            LineNumberInputStream lines = new LineNumberInputStream(new ByteArrayInputStream(sources[source]));
            lines.readAllBytes();
            return lines.getLineNumber();
        }

        private static long checkOf(byte[] bytes) {
            CRC32C check = new CRC32C();
            check.update(bytes);
            return check.getValue();
        }

        private int open(int stream, int kind, int a, int b) throws IOException {
            if (a < 0 || a > 3) {
                return PLACE;
            }
            if (kind < 0 || kind > 7) {
                return ARGUMENT;
            }
            streams[stream] = new Layers(kind, sources[a].clone(), sources[b].clone());
            return sources[a].length + (kind == 4 || kind == 5 || kind == 7 ? sources[b].length : 0);
        }

        private int readPart(Layers layers, int many) throws IOException {
            byte[] got = layers.part(many);
            part = got == null ? part : got;
            return got == null ? -1 : got.length;
        }

        private int readLine(Layers layers, int to) throws IOException {
            int end = layers.place;
            while (end < layers.out.length && layers.out[end] != 10) {
                end++;
            }
            if (layers.place == layers.out.length) {
                return -1;
            }
            if (end - layers.place > 120) {
                return STATE;
            }
            ByteArrayOutputStream bytes = new ByteArrayOutputStream();
            for (int number = layers.next(); number != 10 && number != -1; number = layers.next()) {
                bytes.write(number);
            }
            become(to, bytes.toByteArray());
            return bytes.size();
        }

        private int pour(Layers layers, int to) throws IOException {
            if (layers.out.length - layers.place > 120) {
                return STATE;
            }
            become(to, layers.top.readAllBytes());
            layers.place = layers.out.length;
            return sources[to].length;
        }

        private int alike(Layers one, Layers other) throws IOException {
            for (int same = 0; true; same++) {
                int number = one.next();
                if (number != other.next() || number == -1) {
                    return same;
                }
            }
        }

        private int mark(Layers layers) {
            if (!layers.top.markSupported()) {
                return ABLE;
            }
            layers.mark();
            return layers.lineOr(-1);
        }

        private int back(Layers layers) throws IOException {
            boolean unmarkedLines = layers.lines != null && !layers.marked;
            if (unmarkedLines || layers.kind == 4 || layers.kind == 5 || layers.kind == 7) {
                return ABLE;
            }
            layers.back();
            return layers.lineOr(-1);
        }

        private int setLine(Layers layers, int number) {
            if (layers.lines == null) {
                return ABLE;
            }
            int before = layers.lines.getLineNumber();
            layers.lines.setLineNumber(number);
            return before;
        }

        private double checkAnew(Layers layers) {
            if (layers.checked == null) {
                return ABLE;
            }
            long before = layers.checked.getChecksum().getValue();
            layers.checked.getChecksum().reset();
            return before;
        }

        private double meanLine() {
            long sum = 0;
            int numbered = 0;
            for (Layers layers : streams) {
                if (layers != null && layers.lines != null) {
                    sum += layers.lines.getLineNumber();
                    numbered++;
                }
            }
            return numbered == 0 ? NUMBER : (double) sum / (double) numbered;
        }

        private long checksum() {
            long sum = 7;
            for (byte[] source : sources) {
                sum = with(sum, source);
            }
            sum = with(sum, part);
            for (Layers layers : streams) {
                sum = 31 * sum + (layers == null ? -1 : layers.kind);
                if (layers != null && layers.lines != null) {
                    sum = 31 * sum + layers.lines.getLineNumber();
                }
                if (layers != null && layers.checked != null) {
                    sum = 31 * sum + layers.checked.getChecksum().getValue();
                }
            }
            return sum;
        }

        private static long with(long sum, byte[] bytes) {
            long next = 31 * sum + bytes.length;
            for (byte number : bytes) {
                next = 31 * next + (number & 255);
            }
            return next;
        }
    }
}
