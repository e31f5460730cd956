import java.util.ArrayList;
import java.util.Arrays;
import java.util.List;
import java.util.zip.CRC32C;

/** What the document says comes out, reckoned in another way than the class does: by texts, and by the JDK's CRC32C. */
final class Want {
    static final int[] NOTHING = {};
    static final int[] WITH_LINES = {2, 5, 6};
    static final int[] WITHOUT_LINES = {0, 1, 3, 4, 7};
    static final int[] WITH_CHECK = {3, 6};
    static final int[] WITHOUT_CHECK = {0, 1, 2, 4, 5, 7};
    static final int[] MARKABLE = {0, 2, 3, 6};
    static final int[] NOT_MARKABLE = {1, 4, 5, 7};
    static final int[] WITH_LEFT = {0, 1, 3};
    static final int[] WITHOUT_LEFT = {2, 4, 5, 6, 7};
    static final int[] OF_TWO = {4, 5, 7};
    static final int[] OF_ONE = {0, 1, 2, 3, 6};

    private Want() {
    }

    static int[] lined(int... bytes) {
        StringBuilder text = new StringBuilder();
        for (int number : bytes) {
            text.append((char) number);
        }
        return text.toString().replaceAll("\r\n|\r|\n", "\n").chars().toArray();
    }

    static int ends(int... bytes) {
        return (int) Arrays.stream(lined(bytes)).filter(number -> number == 10).count();
    }

    static int[] joined(int[] a, int[] b) {
        int[] both = Arrays.copyOf(a, a.length + b.length);
        System.arraycopy(b, 0, both, a.length, b.length);
        return both;
    }

    static int[] out(int kind, int[] a, int[] b) {
        switch (kind) {
            case 0: case 1: case 3: return a.clone();
            case 2: case 6: return lined(a);
            case 4: return joined(a, b);
            case 5: return lined(joined(a, b));
            default: return joined(lined(a), lined(b));
        }
    }

    /** How many bytes a part has, of a stream that is at this place. */
    static int partSize(int kind, int[] a, int[] b, int place, int many) {
        int first = kind == 4 ? a.length : kind == 7 ? lined(a).length : 0;
        int end = place < first ? first : out(kind, a, b).length;
        return place == end ? -1 : Math.min(many, end - place);
    }

    static long check(int... bytes) {
        CRC32C check = new CRC32C();
        for (int number : bytes) {
            check.update(number);
        }
        return check.getValue();
    }

    static int[] many(int number, int many) {
        int[] bytes = new int[many];
        Arrays.fill(bytes, number);
        return bytes;
    }

    static int[] from(int[] bytes, int place) {
        return Arrays.copyOfRange(bytes, Math.min(place, bytes.length), bytes.length);
    }

    /** All rows of 10, 13 and 97 that have at most so many bytes, the empty one first. */
    static List<int[]> rowsUpTo(int most) {
        List<int[]> rows = new ArrayList<>();
        rows.add(NOTHING);
        for (int i = 0; i < rows.size(); i++) {
            int[] row = rows.get(i);
            if (row.length < most) {
                for (int number : new int[] {10, 13, 97}) {
                    int[] longer = Arrays.copyOf(row, row.length + 1);
                    longer[row.length] = number;
                    rows.add(longer);
                }
            }
        }
        return rows;
    }
}
