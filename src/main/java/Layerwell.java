import java.util.NoSuchElementException;

/**
 * Streams of bytes in layers, with line numbers, marks and checks, over four sources of bytes.
 * All rows are made with the object and used again, so that no call makes anything but its exception.
 */
public final class Layerwell {

    private static final int SOURCES = 4;
    private static final int STREAMS = 4;
    private static final int MOST_IN_SOURCE = 120;
    private static final int MOST_TYPED = 60;
    private static final int MOST_IN_PART = 64;
    private static final int MOST_SKIPPED = 200;
    // The longest OUT is that of two full sources, one behind the other.
    private static final int MOST_IN_ROW = 240;

    private static final int NONE = -1;
    private static final int NOT_OPEN = -1;
    private static final int LINE_END = 10;
    private static final int CARRIAGE_RETURN = 13;

    private static final int BYTES = 0;
    private static final int TEXT = 1;
    private static final int LINES = 2;
    private static final int CHECKED = 3;
    private static final int JOINED = 4;
    private static final int LINES_OF_JOINED = 5;
    private static final int CHECKED_LINES = 6;
    private static final int JOINED_LINES = 7;
    private static final int KINDS = 8;

    private static final long ALL_BITS = 4294967295L;
    private static final long CHECK_BITS = 2197175160L;

    private static final int TRIAL_PART = 3;

    private final Row[] sources = new Row[SOURCES];
    private final Stream[] streams = new Stream[STREAMS];
    private final Row part = new Row();
    private final Trial trial = new Trial();

    public Layerwell() {
        for (int i = 0; i < SOURCES; i++) {
            sources[i] = new Row();
        }
        for (int i = 0; i < STREAMS; i++) {
            streams[i] = new Stream();
        }
    }

    // Sources

    public int type(int source, int number)
            throws IndexOutOfBoundsException, IllegalArgumentException, IllegalStateException {
        Row row = sourceAt(source);
        requireByte(number);
        requireRoom(row.size() + 1);
        row.put(number);
        return row.size();
    }

    public int typeMany(int source, int number, int many)
            throws IndexOutOfBoundsException, IllegalArgumentException, IllegalStateException {
        Row row = sourceAt(source);
        requireByte(number);
        requireBetween(many, 0, MOST_TYPED);
        requireRoom(row.size() + many);
        for (int i = 0; i < many; i++) {
            row.put(number);
        }
        return row.size();
    }

    public int cut(int source) throws IndexOutOfBoundsException, NoSuchElementException {
        Row row = sourceAt(source);
        if (row.size() == 0) {
            throw new NoSuchElementException("the source has no bytes");
        }
        return row.takeLast();
    }

    public int clear(int source) throws IndexOutOfBoundsException {
        Row row = sourceAt(source);
        int had = row.size();
        row.makeEmpty();
        return had;
    }

    public int length(int source) throws IndexOutOfBoundsException {
        return sourceAt(source).size();
    }

    public int byteAt(int source, int index) throws IndexOutOfBoundsException {
        Row row = sourceAt(source);
        requirePlace(row, index);
        return row.at(index);
    }

    public int ends(int source) throws IndexOutOfBoundsException {
        return sourceAt(source).countEnds();
    }

    // Streams

    public int open(int stream, int kind, int a, int b)
            throws IndexOutOfBoundsException, IllegalArgumentException {
        Stream opened = streamAt(stream);
        Row first = sourceAt(a);
        Row second = sourceAt(b);
        requireBetween(kind, 0, KINDS - 1);
        opened.begin(kind, first, second);
        return hasTwoSources(kind) ? first.size() + second.size() : first.size();
    }

    public int kind(int stream) throws IndexOutOfBoundsException {
        return streamAt(stream).kind;
    }

    public int read(int stream) throws IndexOutOfBoundsException, UnsupportedOperationException {
        return openStreamAt(stream).next();
    }

    public int readPart(int stream, int many)
            throws IndexOutOfBoundsException, IllegalArgumentException, UnsupportedOperationException {
        Stream from = streamAt(stream);
        requireBetween(many, 1, MOST_IN_PART);
        requireOpen(from);
        return from.takePart(many, part);
    }

    public int partLength() {
        return part.size();
    }

    public int partAt(int index) throws IndexOutOfBoundsException {
        requirePlace(part, index);
        return part.at(index);
    }

    public int skip(int stream, int many)
            throws IndexOutOfBoundsException, IllegalArgumentException, UnsupportedOperationException {
        Stream from = streamAt(stream);
        requireBetween(many, 0, MOST_SKIPPED);
        requireOpen(from);
        return from.pass(many);
    }

    public int readLine(int stream, int to)
            throws IndexOutOfBoundsException, UnsupportedOperationException, IllegalStateException {
        Stream from = streamAt(stream);
        Row into = sourceAt(to);
        requireOpen(from);
        if (from.rest() == 0) {
            return NONE;
        }
        int many = from.restOfLine();
        requireRoom(many);
        from.move(many, into);
        // This passes the end of the line; behind the last byte there is none, and nothing is passed.
        from.next();
        return many;
    }

    public int pour(int stream, int to)
            throws IndexOutOfBoundsException, UnsupportedOperationException, IllegalStateException {
        Stream from = streamAt(stream);
        Row into = sourceAt(to);
        requireOpen(from);
        int many = from.rest();
        requireRoom(many);
        from.move(many, into);
        return many;
    }

    public int alike(int stream, int other)
            throws IndexOutOfBoundsException, IllegalArgumentException, UnsupportedOperationException {
        Stream first = streamAt(stream);
        Stream second = streamAt(other);
        if (stream == other) {
            throw new IllegalArgumentException("both are the same stream");
        }
        requireOpen(first);
        requireOpen(second);
        return countAlike(first, second);
    }

    // Going back

    public boolean canMark(int stream) throws IndexOutOfBoundsException, UnsupportedOperationException {
        return canBeMarked(openStreamAt(stream).kind);
    }

    public int mark(int stream) throws IndexOutOfBoundsException, UnsupportedOperationException {
        Stream marked = openStreamAt(stream);
        require(canBeMarked(marked.kind));
        marked.setMark();
        return marked.shownLine();
    }

    public int back(int stream) throws IndexOutOfBoundsException, UnsupportedOperationException {
        Stream brought = openStreamAt(stream);
        require(brought.markPlace != NONE);
        brought.goBack();
        return brought.shownLine();
    }

    // Lines and checks

    public int left(int stream) throws IndexOutOfBoundsException, UnsupportedOperationException {
        Stream asked = openStreamAt(stream);
        require(tellsRest(asked.kind));
        return asked.rest();
    }

    public int line(int stream) throws IndexOutOfBoundsException, UnsupportedOperationException {
        Stream asked = openStreamAt(stream);
        require(hasLine(asked.kind));
        return asked.lineNumber;
    }

    public int setLine(int stream, int number) throws IndexOutOfBoundsException, UnsupportedOperationException {
        Stream numbered = openStreamAt(stream);
        require(hasLine(numbered.kind));
        int before = numbered.lineNumber;
        numbered.lineNumber = number;
        return before;
    }

    public long check(int stream) throws IndexOutOfBoundsException, UnsupportedOperationException {
        Stream asked = openStreamAt(stream);
        require(hasCheck(asked.kind));
        return asked.checkNow();
    }

    public long checkAnew(int stream) throws IndexOutOfBoundsException, UnsupportedOperationException {
        Stream checked = openStreamAt(stream);
        require(hasCheck(checked.kind));
        long before = checked.checkNow();
        checked.register = ALL_BITS;
        return before;
    }

    public long checkOf(int source) throws IndexOutOfBoundsException {
        Row row = sourceAt(source);
        long register = ALL_BITS;
        for (int i = 0; i < row.size(); i++) {
            register = withByte(register, row.at(i));
        }
        return ALL_BITS - register;
    }

    // Figures

    public float share(int source) throws IndexOutOfBoundsException, ArithmeticException {
        Row row = sourceAt(source);
        if (row.size() == 0) {
            throw new ArithmeticException("the source has no bytes");
        }
        return (float) row.countEnds() / (float) row.size();
    }

    public double meanLine() throws ArithmeticException {
        long sum = 0;
        int numbered = 0;
        for (int i = 0; i < STREAMS; i++) {
            if (hasLine(streams[i].kind)) {
                sum += streams[i].lineNumber;
                numbered++;
            }
        }
        if (numbered == 0) {
            throw new ArithmeticException("no open stream has a line number");
        }
        return (double) sum / (double) numbered;
    }

    public long checksum() {
        long sum = 7;
        for (int i = 0; i < SOURCES; i++) {
            sum = withRow(sum, sources[i]);
        }
        sum = withRow(sum, part);
        for (int i = 0; i < STREAMS; i++) {
            sum = withStream(sum, streams[i]);
        }
        return sum;
    }

    public boolean isTrue() {
        int first = longestSource();
        int second = first + 1 < SOURCES ? first + 1 : 0;
        for (int kind = 0; kind < KINDS; kind++) {
            if (!trial.holds(kind, sources[first], sources[second])) {
                return false;
            }
        }
        return true;
    }

    // What the calls ask of their arguments

    private Row sourceAt(int source) {
        if (source < 0 || source >= SOURCES) {
            throw new IndexOutOfBoundsException("there is no such source");
        }
        return sources[source];
    }

    private Stream streamAt(int stream) {
        if (stream < 0 || stream >= STREAMS) {
            throw new IndexOutOfBoundsException("there is no such stream");
        }
        return streams[stream];
    }

    private Stream openStreamAt(int stream) {
        Stream found = streamAt(stream);
        requireOpen(found);
        return found;
    }

    private static void requireOpen(Stream stream) {
        if (stream.kind == NOT_OPEN) {
            throw new UnsupportedOperationException("the stream is not open");
        }
    }

    private static void require(boolean kindCanDoIt) {
        if (!kindCanDoIt) {
            throw new UnsupportedOperationException("the stream can't do that");
        }
    }

    private static void requireByte(int number) {
        if (number < 0 || number > 255) {
            throw new IllegalArgumentException("the number is no byte");
        }
    }

    private static void requireBetween(int number, int least, int most) {
        if (number < least || number > most) {
            throw new IllegalArgumentException("the number is out of range");
        }
    }

    private static void requireRoom(int size) {
        if (size > MOST_IN_SOURCE) {
            throw new IllegalStateException("the source would have too many bytes");
        }
    }

    private static void requirePlace(Row row, int index) {
        if (index < 0 || index >= row.size()) {
            throw new IndexOutOfBoundsException("there is no such place");
        }
    }

    // What the kinds can do

    private static boolean hasTwoSources(int kind) {
        return kind == JOINED || kind == LINES_OF_JOINED || kind == JOINED_LINES;
    }

    private static boolean hasLine(int kind) {
        return kind == LINES || kind == LINES_OF_JOINED || kind == CHECKED_LINES;
    }

    private static boolean hasCheck(int kind) {
        return kind == CHECKED || kind == CHECKED_LINES;
    }

    private static boolean isLined(int kind) {
        return hasLine(kind) || kind == JOINED_LINES;
    }

    private static boolean canBeMarked(int kind) {
        return kind == BYTES || kind == LINES || kind == CHECKED || kind == CHECKED_LINES;
    }

    private static boolean goesBackUnmarked(int kind) {
        return kind == BYTES || kind == TEXT || kind == CHECKED;
    }

    private static boolean tellsRest(int kind) {
        return kind == BYTES || kind == TEXT || kind == CHECKED;
    }

    // Figures in small steps

    private static int countAlike(Stream first, Stream second) {
        int most = first.rest();
        for (int same = 0; same < most; same++) {
            int one = first.next();
            int another = second.next();
            if (one != another) {
                return same;
            }
        }
        // The first one has none now, but the last turn reads the other one, too.
        second.next();
        return most;
    }

    private static long withByte(long register, int number) {
        long next = register ^ number;
        for (int i = 0; i < 8; i++) {
            boolean odd = (next & 1) != 0;
            next = next >>> 1;
            if (odd) {
                next = next ^ CHECK_BITS;
            }
        }
        return next;
    }

    private static long withRow(long sum, Row row) {
        long next = 31 * sum + row.size();
        for (int i = 0; i < row.size(); i++) {
            next = 31 * next + row.at(i);
        }
        return next;
    }

    private static long withStream(long sum, Stream stream) {
        long next = 31 * sum + stream.kind;
        if (hasLine(stream.kind)) {
            next = 31 * next + stream.lineNumber;
        }
        if (hasCheck(stream.kind)) {
            next = 31 * next + stream.checkNow();
        }
        return next;
    }

    private int longestSource() {
        int longest = 0;
        for (int i = 1; i < SOURCES; i++) {
            if (sources[i].size() > sources[longest].size()) {
                longest = i;
            }
        }
        return longest;
    }

    /** Bytes in order. It looks at every index itself, so that no use of it can make the machine throw. */
    private static final class Row {
        private final int[] bytes = new int[MOST_IN_ROW];
        private int count;

        int size() {
            return count;
        }

        int at(int index) {
            if (index < 0 || index >= count || index >= bytes.length) {
                return NONE;
            }
            return bytes[index];
        }

        void put(int number) {
            if (count >= 0 && count < bytes.length) {
                bytes[count] = number;
                count++;
            }
        }

        int takeLast() {
            int last = at(count - 1);
            if (count > 0) {
                count--;
            }
            return last;
        }

        void makeEmpty() {
            count = 0;
        }

        void putAll(Row other) {
            for (int i = 0; i < other.size(); i++) {
                put(other.at(i));
            }
        }

        /** Puts another row behind this one, LINED; before is the byte ahead of it, or NONE. */
        void putLined(Row other, int before) {
            for (int i = 0; i < other.size(); i++) {
                int ahead = i == 0 ? before : other.at(i - 1);
                int number = lined(other.at(i), ahead);
                if (number != NONE) {
                    put(number);
                }
            }
        }

        int countEnds() {
            int ends = 0;
            for (int i = 0; i < count; i++) {
                if (lined(at(i), at(i - 1)) == LINE_END) {
                    ends++;
                }
            }
            return ends;
        }

        /** A 13 ends its line at once, so a 10 right behind it has nothing more to say. */
        private static int lined(int number, int before) {
            if (number == CARRIAGE_RETURN) {
                return LINE_END;
            }
            return number == LINE_END && before == CARRIAGE_RETURN ? NONE : number;
        }
    }

    private static final class Stream {
        private final Row out = new Row();
        private int kind = NOT_OPEN;
        // Where what comes of the second source begins, for kinds whose parts end there; 0 for all others.
        private int seam;
        private int place;
        private int lineNumber;
        private long register;
        // NONE means that the stream can't go back.
        private int markPlace;
        private int markLine;

        void begin(int newKind, Row a, Row b) {
            kind = newKind;
            fillOut(a, b);
            place = 0;
            lineNumber = 0;
            register = ALL_BITS;
            markPlace = goesBackUnmarked(kind) ? 0 : NONE;
            markLine = 0;
        }

        private void fillOut(Row a, Row b) {
            out.makeEmpty();
            if (isLined(kind)) {
                out.putLined(a, NONE);
            } else {
                out.putAll(a);
            }
            seam = 0;
            if (kind == JOINED) {
                seam = out.size();
                out.putAll(b);
            } else if (kind == LINES_OF_JOINED) {
                out.putLined(b, a.at(a.size() - 1));
            } else if (kind == JOINED_LINES) {
                seam = out.size();
                out.putLined(b, NONE);
            }
        }

        int rest() {
            return out.size() - place;
        }

        int restOfLine() {
            for (int i = place; i < out.size(); i++) {
                if (out.at(i) == LINE_END) {
                    return i - place;
                }
            }
            return rest();
        }

        int next() {
            int number = out.at(place);
            if (number == NONE) {
                return NONE;
            }
            place++;
            if (number == LINE_END) {
                lineNumber++;
            }
            if (hasCheck(kind)) {
                register = withByte(register, number);
            }
            return number;
        }

        int pass(int many) {
            int passed = Math.min(many, rest());
            for (int i = 0; i < passed; i++) {
                next();
            }
            return passed;
        }

        int takePart(int many, Row into) {
            int restToSeam = place < seam ? seam - place : rest();
            int taken = Math.min(many, restToSeam);
            if (taken == 0) {
                return NONE;
            }
            move(taken, into);
            return taken;
        }

        void move(int many, Row into) {
            into.makeEmpty();
            for (int i = 0; i < many; i++) {
                into.put(next());
            }
        }

        void setMark() {
            markPlace = place;
            markLine = lineNumber;
        }

        void goBack() {
            place = markPlace;
            lineNumber = markLine;
        }

        int shownLine() {
            return hasLine(kind) ? lineNumber : NONE;
        }

        long checkNow() {
            return ALL_BITS - register;
        }
    }

    /** The theorem's own stream, and what is due of it, which is reckoned in another way than the stream does. */
    private static final class Trial {
        private final Stream stream = new Stream();
        private final Row due = new Row();
        private final Row part = new Row();
        private int place;
        private int lineNumber;
        private long register;

        boolean holds(int kind, Row a, Row b) {
            fillDue(kind, a, b);
            return holdsByBytes(kind, a, b)
                    && holdsInParts(kind, a, b)
                    && holdsBehindSkip(kind, a, b)
                    && (!canBeMarked(kind) || holdsBroughtBack(kind, a, b));
        }

        private void fillDue(int kind, Row a, Row b) {
            int first = a.size();
            int both = first + b.size();
            due.makeEmpty();
            if (kind == JOINED || kind == LINES_OF_JOINED) {
                putDue(a, b, 0, both, isLined(kind));
            } else {
                putDue(a, b, 0, first, isLined(kind));
            }
            if (kind == JOINED_LINES) {
                putDue(a, b, first, both, true);
            }
        }

        private void putDue(Row a, Row b, int from, int to, boolean asLines) {
            for (int i = from; i < to; i++) {
                int number = joinedAt(a, b, i);
                int following = i + 1 < to ? joinedAt(a, b, i + 1) : NONE;
                if (!asLines || number != CARRIAGE_RETURN) {
                    due.put(number);
                } else if (following != LINE_END) {
                    due.put(LINE_END);
                }
            }
        }

        private static int joinedAt(Row a, Row b, int index) {
            return index < a.size() ? a.at(index) : b.at(index - a.size());
        }

        private boolean holdsByBytes(int kind, Row a, Row b) {
            start(kind, a, b);
            return readsRest();
        }

        private boolean holdsInParts(int kind, Row a, Row b) {
            start(kind, a, b);
            for (int i = 0; i <= MOST_IN_ROW; i++) {
                if (stream.takePart(TRIAL_PART, part) == NONE) {
                    return place == due.size() && figuresAreDue();
                }
                if (!partIsDue()) {
                    return false;
                }
            }
            return false;
        }

        private boolean holdsBehindSkip(int kind, Row a, Row b) {
            start(kind, a, b);
            return skipsThird() && readsRest();
        }

        private boolean holdsBroughtBack(int kind, Row a, Row b) {
            start(kind, a, b);
            if (!skipsThird()) {
                return false;
            }
            int third = place;
            int lineThere = lineNumber;
            stream.setMark();
            if (!readsRest()) {
                return false;
            }
            stream.goBack();
            place = third;
            lineNumber = lineThere;
            return readsRest();
        }

        private void start(int kind, Row a, Row b) {
            stream.begin(kind, a, b);
            place = 0;
            lineNumber = 0;
            register = ALL_BITS;
        }

        private boolean skipsThird() {
            int third = due.size() / 3;
            int passed = stream.pass(third);
            for (int i = 0; i < third; i++) {
                nextDue();
            }
            return passed == third && figuresAreDue();
        }

        private boolean readsRest() {
            int rest = due.size() - place;
            for (int i = 0; i < rest; i++) {
                if (stream.next() != nextDue() || !figuresAreDue()) {
                    return false;
                }
            }
            return stream.next() == NONE && figuresAreDue();
        }

        private boolean partIsDue() {
            for (int i = 0; i < part.size(); i++) {
                if (part.at(i) != nextDue()) {
                    return false;
                }
            }
            return figuresAreDue();
        }

        private int nextDue() {
            int number = due.at(place);
            place++;
            if (number == LINE_END) {
                lineNumber++;
            }
            if (hasCheck(stream.kind)) {
                register = withByte(register, number);
            }
            return number;
        }

        private boolean figuresAreDue() {
            if (hasLine(stream.kind) && stream.lineNumber != lineNumber) {
                return false;
            }
            return !hasCheck(stream.kind) || stream.checkNow() == ALL_BITS - register;
        }
    }
}
