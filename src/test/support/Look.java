import java.util.function.Function;

/**
 * All that can be seen of an object, also what only later calls tell: the places, the marks and what the streams
 * still give. Looking reads the streams to their end, so an object that was looked at is of no more use.
 */
final class Look {
    private final Layerwell x;
    private final StringBuilder seen = new StringBuilder();

    private Look(Layerwell x) {
        this.x = x;
    }

    static String at(Layerwell x) {
        Look look = new Look(x);
        look.atSources();
        for (int stream = 0; stream < 4; stream++) {
            look.atStream(stream);
        }
        for (int stream = 0; stream < 4; stream++) {
            look.throughStream(stream);
        }
        return look.seen.toString();
    }

    private void atSources() {
        see("checksum", Layerwell::checksum);
        see("partLength", Layerwell::partLength);
        see("meanLine", Layerwell::meanLine);
        for (int i = 0; i < 4; i++) {
            int source = i;
            see("length", y -> y.length(source));
            see("checkOf", y -> y.checkOf(source));
            see("share", y -> y.share(source));
        }
    }

    private void atStream(int stream) {
        see("kind", y -> y.kind(stream));
        see("canMark", y -> y.canMark(stream));
        see("left", y -> y.left(stream));
        see("line", y -> y.line(stream));
        see("check", y -> y.check(stream));
    }

    private void throughStream(int stream) {
        readRest(stream);
        see("back", y -> y.back(stream));
        readRest(stream);
    }

    /** The checksum holds each byte of the part, and the line numbers and checks. */
    private void readRest(int stream) {
        for (int i = 0; i < 8; i++) {
            String got = see("readPart", y -> y.readPart(stream, 64));
            see("checksum", Layerwell::checksum);
            if (!got.startsWith("the answer ") || got.equals("the answer -1")) {
                return;
            }
        }
    }

    private String see(String call, Function<Layerwell, Object> made) {
        String got = Due.thrownBy(x, made);
        seen.append(' ').append(call).append(": ").append(got.replace("the answer ", ""));
        return got;
    }
}
